/-! THE PURE MACHINE, 9: what a run comes to, step by step: pm_E S Q: from S the method comes to its end, with Q -/
theorem pm_run_step {f g : Nat} (ih : ∀ {scr : Option (Nat × (Nat → Int32))} {d : Nat} {T : pm_M} {pc : Nat} {lv : pm_L} {st : List Value} {ph : List va_E} {nc ns : Nat} {r : Option Value × List va_E × Nat × Nat}, pm_run f scr d T pc lv st ph nc ns = some r → pm_run g scr d T pc lv st ph nc ns = some r)
    {scr : Option (Nat × (Nat → Int32))} {d : Nat} {T : pm_M} {pc : Nat} {lv : pm_L} {st : List Value} {ph : List va_E} {nc ns : Nat} {r : Option Value × List va_E × Nat × Nat} (h : pm_run (f + 1) scr d T pc lv st ph nc ns = some r) : pm_run (g + 1) scr d T pc lv st ph nc ns = some r := by
  unfold pm_run at h ⊢
  cases hw : pm_as (pm_cd T) pc with
  | none => rw [hw] at h; cases h
  | some w =>
    rw [hw] at h
    dsimp only at h ⊢
    cases h1 : pm_sim (pm_ml T) w.1 lv st with
    | some x => rw [h1] at h; exact ih h
    | none =>
    rw [h1] at h
    dsimp only at h ⊢
    cases h2 : pm_jmp w.1 pc st with
    | some x => rw [h2] at h; exact ih h
    | none =>
    rw [h2] at h
    dsimp only at h ⊢
    cases h3 : pm_rd T scr w.1 st ph with
    | some x => rw [h3] at h; exact ih h
    | none =>
    rw [h3] at h
    dsimp only at h ⊢
    cases h4 : pm_wr T w.1 st ph with
    | some x => rw [h4] at h; exact ih h
    | none =>
    rw [h4] at h
    dsimp only at h ⊢
    cases h5 : pm_nw T w.1 st with
    | some x => rw [h5] at h; exact ih h
    | none =>
    rw [h5] at h
    dsimp only at h ⊢
    cases h6 : pm_nat T w.1 st with
    | some x => rw [h6] at h; exact ih h
    | none =>
    rw [h6] at h
    dsimp only at h ⊢
    cases h7 : pm_cpw T w.1 st ph with
    | some x => rw [h7] at h; exact ih h
    | none =>
    rw [h7] at h
    dsimp only at h ⊢
    cases h8 : pm_ret T w.1 st with
    | some x => rw [h8] at h; exact h
    | none =>
    rw [h8] at h
    dsimp only at h ⊢
    cases d with
    | zero => cases h
    | succ d2 =>
    dsimp only at h ⊢
    cases h9 : pm_cal T w.1 st ph with
    | none => rw [h9] at h; cases h
    | some x =>
    rw [h9] at h
    dsimp only at h ⊢
    cases hy : pm_run f none d2 x.1 0 (lv_args 0 x.2.1) [] ph 0 0 with
    | none => rw [hy] at h; cases h
    | some y =>
    rw [hy] at h
    rw [ih hy]
    exact ih h
theorem pm_run_more : ∀ (f : Nat) {scr : Option (Nat × (Nat → Int32))} {d : Nat} {T : pm_M} {pc : Nat} {lv : pm_L} {st : List Value} {ph : List va_E} {nc ns : Nat} {r : Option Value × List va_E × Nat × Nat}, pm_run f scr d T pc lv st ph nc ns = some r → pm_run (f + 1) scr d T pc lv st ph nc ns = some r
  | 0, _, _, _, _, _, _, _, _, _, _, h => by cases h
  | f + 1, _, _, _, _, _, _, _, _, _, _, h => pm_run_step (fun h => pm_run_more f h) h
theorem pm_run_le {f g : Nat} (hg : f ≤ g) {scr : Option (Nat × (Nat → Int32))} {d : Nat} {T : pm_M} {pc : Nat} {lv : pm_L} {st : List Value} {ph : List va_E} {nc ns : Nat} {r : Option Value × List va_E × Nat × Nat} (h : pm_run f scr d T pc lv st ph nc ns = some r) : pm_run g scr d T pc lv st ph nc ns = some r := by
  induction hg with
  | refl => exact h
  | step _ ih => exact pm_run_more _ ih
def pm_E (scr : Option (Nat × (Nat → Int32))) (d : Nat) (T : pm_M) (pc : Nat) (lv : pm_L) (st : List Value) (ph : List va_E) (nc ns : Nat) (Q : Option Value → List va_E → Nat → Nat → Prop) : Prop := ∃ (f : Nat) (v : Option Value) (ph2 : List va_E) (nc2 ns2 : Nat), pm_run f scr d T pc lv st ph nc ns = some (v, ph2, nc2, ns2) ∧ Q v ph2 nc2 ns2
section PMEV
variable {scr : Option (Nat × (Nat → Int32))} {d : Nat} {T : pm_M} {pc : Nat} {lv lv2 : pm_L} {st st2 : List Value} {ph : List va_E} {nc ns : Nat} {Q : Option Value → List va_E → Nat → Nat → Prop} {i : Instr} {len : Nat}
theorem pm_e_sim (h0 : pm_as (pm_cd T) pc = some (i, len)) (h1 : pm_sim (pm_ml T) i lv st = some (lv2, st2)) (k : pm_E scr d T (pc + pm_len i) lv2 st2 ph nc ns Q) : pm_E scr d T pc lv st ph nc ns Q := by
  obtain ⟨f, v, ph2, nc2, ns2, h, hq⟩ := k
  refine ⟨f + 1, v, ph2, nc2, ns2, ?_, hq⟩
  unfold pm_run
  simp only [h0, h1]
  exact h
theorem pm_e_jmp {pc2 : Nat} (h0 : pm_as (pm_cd T) pc = some (i, len)) (h1 : pm_sim (pm_ml T) i lv st = none) (h2 : pm_jmp i pc st = some (pc2, st2)) (k : pm_E scr d T pc2 lv st2 ph nc ns Q) : pm_E scr d T pc lv st ph nc ns Q := by
  obtain ⟨f, v, ph2, nc2, ns2, h, hq⟩ := k
  refine ⟨f + 1, v, ph2, nc2, ns2, ?_, hq⟩
  unfold pm_run
  simp only [h0, h1, h2]
  exact h
theorem pm_e_goto {off : Int} {t : Nat} (h0 : pm_as (pm_cd T) pc = some (.goto off, len)) (ht : pm_tgt pc off = some t) (k : pm_E scr d T t lv st ph nc ns Q) : pm_E scr d T pc lv st ph nc ns Q :=
  pm_e_jmp h0 rfl (by show pm_jto pc off st = _; unfold pm_jto; rw [ht]) k
theorem pm_e_ift {cn : Jvm.ClassFile.Cond} {off : Int} {t : Nat} {x : Int32} (h0 : pm_as (pm_cd T) pc = some (.ifCond cn off, len)) (ht : pm_tgt pc off = some t) (hc : pm_cz cn x 0 = true) (k : pm_E scr d T t lv st ph nc ns Q) : pm_E scr d T pc lv (.int x :: st) ph nc ns Q :=
  pm_e_jmp h0 rfl (by show pm_jc (pm_cz cn x 0) pc off st = _; unfold pm_jc; rw [ht, hc]; rfl) k
theorem pm_e_iff {cn : Jvm.ClassFile.Cond} {off : Int} {t : Nat} {x : Int32} (h0 : pm_as (pm_cd T) pc = some (.ifCond cn off, len)) (ht : pm_tgt pc off = some t) (hc : pm_cz cn x 0 = false) (k : pm_E scr d T (pc + 3) lv st ph nc ns Q) : pm_E scr d T pc lv (.int x :: st) ph nc ns Q :=
  pm_e_jmp h0 rfl (by show pm_jc (pm_cz cn x 0) pc off st = _; unfold pm_jc; rw [ht, hc]; rfl) k
theorem pm_e_if {cn : Jvm.ClassFile.Cond} {off : Int} {t : Nat} {x : Int32} (h0 : pm_as (pm_cd T) pc = some (.ifCond cn off, len)) (ht : pm_tgt pc off = some t) (k1 : pm_cz cn x 0 = true → pm_E scr d T t lv st ph nc ns Q) (k2 : pm_cz cn x 0 = false → pm_E scr d T (pc + 3) lv st ph nc ns Q) : pm_E scr d T pc lv (.int x :: st) ph nc ns Q := by
  cases hc : pm_cz cn x 0 with
  | true => exact pm_e_ift h0 ht hc (k1 hc)
  | false => exact pm_e_iff h0 ht hc (k2 hc)
theorem pm_e_ict {cn : Jvm.ClassFile.Cond} {off : Int} {t : Nat} {x y : Int32} (h0 : pm_as (pm_cd T) pc = some (.if_icmp cn off, len)) (ht : pm_tgt pc off = some t) (hc : pm_cz cn x y = true) (k : pm_E scr d T t lv st ph nc ns Q) : pm_E scr d T pc lv (.int y :: .int x :: st) ph nc ns Q :=
  pm_e_jmp h0 rfl (by show pm_jc (pm_cz cn x y) pc off st = _; unfold pm_jc; rw [ht, hc]; rfl) k
theorem pm_e_icf {cn : Jvm.ClassFile.Cond} {off : Int} {t : Nat} {x y : Int32} (h0 : pm_as (pm_cd T) pc = some (.if_icmp cn off, len)) (ht : pm_tgt pc off = some t) (hc : pm_cz cn x y = false) (k : pm_E scr d T (pc + 3) lv st ph nc ns Q) : pm_E scr d T pc lv (.int y :: .int x :: st) ph nc ns Q :=
  pm_e_jmp h0 rfl (by show pm_jc (pm_cz cn x y) pc off st = _; unfold pm_jc; rw [ht, hc]; rfl) k
theorem pm_e_ic {cn : Jvm.ClassFile.Cond} {off : Int} {t : Nat} {x y : Int32} (h0 : pm_as (pm_cd T) pc = some (.if_icmp cn off, len)) (ht : pm_tgt pc off = some t) (k1 : pm_cz cn x y = true → pm_E scr d T t lv st ph nc ns Q) (k2 : pm_cz cn x y = false → pm_E scr d T (pc + 3) lv st ph nc ns Q) : pm_E scr d T pc lv (.int y :: .int x :: st) ph nc ns Q := by
  cases hc : pm_cz cn x y with
  | true => exact pm_e_ict h0 ht hc (k1 hc)
  | false => exact pm_e_icf h0 ht hc (k2 hc)
theorem pm_e_rd (h0 : pm_as (pm_cd T) pc = some (i, len)) (h1 : pm_sim (pm_ml T) i lv st = none) (h2 : pm_jmp i pc st = none) (h3 : pm_rd T scr i st ph = some st2) (k : pm_E scr d T (pc + pm_len i) lv st2 ph nc ns Q) : pm_E scr d T pc lv st ph nc ns Q := by
  obtain ⟨f, v, ph2, nc2, ns2, h, hq⟩ := k
  refine ⟨f + 1, v, ph2, nc2, ns2, ?_, hq⟩
  unfold pm_run
  simp only [h0, h1, h2, h3]
  exact h
theorem pm_e_wr {k2 : Nat} {e2 : va_E} {ph1 : List va_E} (h0 : pm_as (pm_cd T) pc = some (i, len)) (h1 : pm_sim (pm_ml T) i lv st = none) (h2 : pm_jmp i pc st = none) (h3 : pm_rd T scr i st ph = none) (h4 : pm_wr T i st ph = some (st2, k2, e2)) (h5 : ph.set k2 e2 = ph1) (k : pm_E scr d T (pc + pm_len i) lv st2 ph1 nc ns Q) : pm_E scr d T pc lv st ph nc ns Q := by
  obtain ⟨f, v, ph2, nc2, ns2, h, hq⟩ := k
  refine ⟨f + 1, v, ph2, nc2, ns2, ?_, hq⟩
  unfold pm_run
  simp only [h0, h1, h2, h3, h4, h5]
  exact h
theorem pm_e_nw {e2 : va_E} {n2 : Nat} {ph1 : List va_E} {k2 : Nat} (h0 : pm_as (pm_cd T) pc = some (i, len)) (h1 : pm_sim (pm_ml T) i lv st = none) (h2 : pm_jmp i pc st = none) (h3 : pm_rd T scr i st ph = none) (h4 : pm_wr T i st ph = none) (h5 : pm_nw T i st = some (st2, e2, n2)) (h6 : ph ++ [e2] = ph1) (h7 : ph.length = k2) (k : pm_E scr d T (pc + pm_len i) lv (.ref k2 :: st2) ph1 (nc + 1) (ns + n2) Q) : pm_E scr d T pc lv st ph nc ns Q := by
  obtain ⟨f, v, ph2, nc2, ns2, h, hq⟩ := k
  refine ⟨f + 1, v, ph2, nc2, ns2, ?_, hq⟩
  unfold pm_run
  simp only [h0, h1, h2, h3, h4, h5, h6, h7]
  exact h
theorem pm_e_nat (h0 : pm_as (pm_cd T) pc = some (i, len)) (h1 : pm_sim (pm_ml T) i lv st = none) (h2 : pm_jmp i pc st = none) (h3 : pm_rd T scr i st ph = none) (h4 : pm_wr T i st ph = none) (h5 : pm_nw T i st = none) (h6 : pm_nat T i st = some st2) (k : pm_E scr d T (pc + pm_len i) lv st2 ph nc ns Q) : pm_E scr d T pc lv st ph nc ns Q := by
  obtain ⟨f, v, ph2, nc2, ns2, h, hq⟩ := k
  refine ⟨f + 1, v, ph2, nc2, ns2, ?_, hq⟩
  unfold pm_run
  simp only [h0, h1, h2, h3, h4, h5, h6]
  exact h
theorem pm_e_ret {v : Option Value} (h0 : pm_as (pm_cd T) pc = some (i, len)) (h1 : pm_sim (pm_ml T) i lv st = none) (h2 : pm_jmp i pc st = none) (h3 : pm_rd T scr i st ph = none) (h4 : pm_wr T i st ph = none) (h5 : pm_nw T i st = none) (h6 : pm_nat T i st = none) (h7 : pm_cpw T i st ph = none) (h8 : pm_ret T i st = some v) (k : Q v ph nc ns) : pm_E scr d T pc lv st ph nc ns Q := by
  refine ⟨1, v, ph, nc, ns, ?_, k⟩
  unfold pm_run
  simp only [h0, h1, h2, h3, h4, h5, h6, h7, h8]
theorem pm_e_call {T2 : pm_M} {as rest : List Value} (h0 : pm_as (pm_cd T) pc = some (i, len)) (h1 : pm_sim (pm_ml T) i lv st = none) (h2 : pm_jmp i pc st = none) (h3 : pm_rd T scr i st ph = none) (h4 : pm_wr T i st ph = none) (h5 : pm_nw T i st = none) (h6 : pm_nat T i st = none) (h7 : pm_cpw T i st ph = none) (h8 : pm_ret T i st = none) (h9 : pm_cal T i st ph = some (T2, as, rest))
    (k : pm_E none d T2 0 (lv_args 0 as) [] ph 0 0 (fun v ph2 c n => pm_E scr (d + 1) T (pc + pm_len i) lv (v.toList ++ rest) ph2 (nc + c) (ns + n) Q)) : pm_E scr (d + 1) T pc lv st ph nc ns Q := by
  obtain ⟨f, v, ph2, c2, n2, h, f', v', ph3, c3, n3, h', hq⟩ := k
  refine ⟨f + f' + 1, v', ph3, c3, n3, ?_, hq⟩
  have e1 := pm_run_le (Nat.le_add_right f f') h
  have e2 := pm_run_le (Nat.le_add_left f' f) h'
  unfold pm_run
  simp only [h0, h1, h2, h3, h4, h5, h6, h7, h8, h9, e1]
  exact e2
theorem pm_e_mono {Q2 : Option Value → List va_E → Nat → Nat → Prop} (h : pm_E scr d T pc lv st ph nc ns Q2) (hq : ∀ v ph2 c n, Q2 v ph2 c n → Q v ph2 c n) : pm_E scr d T pc lv st ph nc ns Q := by
  obtain ⟨f, v, ph2, nc2, ns2, h, q⟩ := h
  exact ⟨f, v, ph2, nc2, ns2, h, hq _ _ _ _ q⟩
theorem pm_e_top {x y : Int32} (h : x = y) (k : pm_E scr d T pc lv (.int y :: st) ph nc ns Q) : pm_E scr d T pc lv (.int x :: st) ph nc ns Q := by
  rw [h]
  exact k
theorem pm_e_inc {j : Nat} {n : Int} {x y : Int32} (h0 : pm_as (pm_cd T) pc = some (.iinc j n, len)) (hg : pm_get lv j = some (.int x)) (hv : x + Int32.ofInt n = y) (hk : j < pm_ml T) (hl : pm_set lv j (.int y) = lv2) (k : pm_E scr d T (pc + 3) lv2 st ph nc ns Q) : pm_E scr d T pc lv st ph nc ns Q :=
  pm_e_sim h0 (by show pm_inc (pm_ml T) lv j n st = _; unfold pm_inc; rw [hg]; dsimp only; rw [if_pos hk, hv, hl]) k
theorem pm_e_tsi {x : Int32} {t : Nat} (h0 : pm_as (pm_cd T) pc = some (i, len)) (hsw : pm_isw i = true) (h2 : pm_jmp i pc (.int x :: st) = some (t, st)) (k : pm_E scr d T t lv st ph nc ns Q) : pm_E scr d T pc lv (.int x :: st) ph nc ns Q :=
  pm_e_jmp h0 (pm_isw_none hsw (pm_ml T) lv (.int x :: st) T scr ph).1 h2 k
theorem pm_e_tso {x : Int32} {t : Nat} {dd lo hi : Int} {offs : Array Int} (h0 : pm_as (pm_cd T) pc = some (.tableswitch dd lo hi offs, len)) (hx : x.toInt < lo ∨ hi < x.toInt) (ht : pm_tgt pc dd = some t) (k : pm_E scr d T t lv st ph nc ns Q) : pm_E scr d T pc lv (.int x :: st) ph nc ns Q :=
  pm_e_jmp h0 rfl (by show pm_ts dd lo hi offs pc (.int x :: st) = _; unfold pm_ts; dsimp only; rw [if_pos hx]; unfold pm_jto; rw [ht]) k
theorem pm_e_lko {x : Int32} {t : Nat} {dd off : Int} {ps : Array (Int × Int)} (h0 : pm_as (pm_cd T) pc = some (.lookupswitch dd ps, len)) (hp : (ps.toList.zip (ps.toList.drop 1)).all (fun (a, next) => a.1 < next.1) = true) (ho : Op.lookupswitch.offset ps.toList dd x.toInt = off) (ht : pm_tgt pc off = some t) (k : pm_E scr d T t lv st ph nc ns Q) : pm_E scr d T pc lv (.int x :: st) ph nc ns Q :=
  pm_e_jmp h0 rfl (by show pm_lks dd ps pc (.int x :: st) = _; unfold pm_lks; dsimp only; rw [if_pos hp, ho]; unfold pm_jto; rw [ht]) k
theorem pm_e_sld {L j : Nat} {xs : Nat → Int32} {x : Int32} (h0 : pm_as (pm_cd T) pc = some (.iaload, len)) (hj : pm_ix x L = some j) (k : pm_E (some (L, xs)) d T (pc + 1) lv (.int (xs j) :: st) ph nc ns Q) : pm_E (some (L, xs)) d T pc lv (.int x :: .retAddr 0 :: st) ph nc ns Q :=
  pm_e_rd h0 rfl rfl (by show ((pm_ix x L).bind fun j => some (.int (xs j) :: st)) = _; rw [hj]; rfl) k
theorem pm_e_sldc {L j : Nat} {xs : Nat → Int32} {x y : Int32} (e : xs j = y) (h0 : pm_as (pm_cd T) pc = some (.iaload, len)) (hj : pm_ix x L = some j) (k : pm_E (some (L, xs)) d T (pc + 1) lv (.int y :: st) ph nc ns Q) : pm_E (some (L, xs)) d T pc lv (.int x :: .retAddr 0 :: st) ph nc ns Q :=
  pm_e_sld h0 hj (by rw [e]; exact k)
end PMEV
theorem pm_z_lt_t {x y : Int32} (K : Int) (hy : y.toInt = K) (h : x.toInt < K) : pm_cz .lt x y = true := pm_cz_lt.mpr (Int32.lt_iff_toInt_lt.mpr (by rw [hy]; exact h))
theorem pm_z_lt_f {x y : Int32} (K : Int) (hy : y.toInt = K) (h : K ≤ x.toInt) : pm_cz .lt x y = false := pm_bf pm_cz_lt (fun q => by have := Int32.lt_iff_toInt_lt.mp q; omega)
theorem pm_z_ge_t {x y : Int32} (K : Int) (hy : y.toInt = K) (h : K ≤ x.toInt) : pm_cz .ge x y = true := pm_cz_ge.mpr (Int32.le_iff_toInt_le.mpr (by rw [hy]; exact h))
theorem pm_z_ge_f {x y : Int32} (K : Int) (hy : y.toInt = K) (h : x.toInt < K) : pm_cz .ge x y = false := pm_bf pm_cz_ge (fun q => by have := Int32.le_iff_toInt_le.mp q; omega)
theorem pm_z_gt_t {x y : Int32} (K : Int) (hy : y.toInt = K) (h : K < x.toInt) : pm_cz .gt x y = true := pm_cz_gt.mpr (Int32.lt_iff_toInt_lt.mpr (by rw [hy]; exact h))
theorem pm_z_gt_f {x y : Int32} (K : Int) (hy : y.toInt = K) (h : x.toInt ≤ K) : pm_cz .gt x y = false := pm_bf pm_cz_gt (fun q => by have := Int32.lt_iff_toInt_lt.mp q; omega)
theorem pm_z_le_t {x y : Int32} (K : Int) (hy : y.toInt = K) (h : x.toInt ≤ K) : pm_cz .le x y = true := pm_cz_le.mpr (Int32.le_iff_toInt_le.mpr (by rw [hy]; exact h))
theorem pm_z_le_f {x y : Int32} (K : Int) (hy : y.toInt = K) (h : K < x.toInt) : pm_cz .le x y = false := pm_bf pm_cz_le (fun q => by have := Int32.le_iff_toInt_le.mp q; omega)
theorem pm_z_eq_t {x y : Int32} (K : Int) (hy : y.toInt = K) (h : x.toInt = K) : pm_cz .eq x y = true := pm_cz_eq.mpr (Int32.toInt_inj.mp (by rw [hy]; exact h))
theorem pm_z_eq_f {x y : Int32} (K : Int) (hy : y.toInt = K) (h : x.toInt ≠ K) : pm_cz .eq x y = false := pm_bf pm_cz_eq (fun q => h (by rw [q]; exact hy))
theorem pm_z_ne_t {x y : Int32} (K : Int) (hy : y.toInt = K) (h : x.toInt ≠ K) : pm_cz .ne x y = true := pm_cz_ne.mpr (fun q => h (by rw [q]; exact hy))
theorem pm_z_ne_f {x y : Int32} (K : Int) (hy : y.toInt = K) (h : x.toInt = K) : pm_cz .ne x y = false := pm_bf pm_cz_ne (fun q => q (Int32.toInt_inj.mp (by rw [hy]; exact h)))
theorem pm_zl_lt {cn : Jvm.ClassFile.Cond} {t : Int32} {c : Int64} (K : Int) {b : Bool} (hc : c.toInt = K) (h : t.toInt < K) (hb : pm_cz cn (-1) 0 = b) : pm_cz cn (lg_cmp t.toInt64 c) 0 = b := by
  have e : lg_cmp t.toInt64 c = -1 := by
    unfold lg_cmp
    rw [if_neg (fun q => by have := Int64.lt_iff_toInt_lt.mp q; rw [Int32.toInt_toInt64, hc] at this; omega), if_neg (fun q => by have := congrArg Int64.toInt q; rw [Int32.toInt_toInt64, hc] at this; omega)]
  rw [e]
  exact hb
theorem pm_zl_eq {cn : Jvm.ClassFile.Cond} {t : Int32} {c : Int64} (K : Int) {b : Bool} (hc : c.toInt = K) (h : t.toInt = K) (hb : pm_cz cn 0 0 = b) : pm_cz cn (lg_cmp t.toInt64 c) 0 = b := by
  have e : lg_cmp t.toInt64 c = 0 := by
    unfold lg_cmp
    rw [if_neg (fun q => by have := Int64.lt_iff_toInt_lt.mp q; rw [Int32.toInt_toInt64, hc] at this; omega), if_pos (Int64.toInt_inj.mp (by rw [Int32.toInt_toInt64, hc]; exact h))]
  rw [e]
  exact hb
theorem pm_zl_gt {cn : Jvm.ClassFile.Cond} {t : Int32} {c : Int64} (K : Int) {b : Bool} (hc : c.toInt = K) (h : K < t.toInt) (hb : pm_cz cn 1 0 = b) : pm_cz cn (lg_cmp t.toInt64 c) 0 = b := by
  have e : lg_cmp t.toInt64 c = 1 := by
    unfold lg_cmp
    rw [if_pos (Int64.lt_iff_toInt_lt.mpr (by rw [Int32.toInt_toInt64, hc]; exact h))]
  rw [e]
  exact hb
