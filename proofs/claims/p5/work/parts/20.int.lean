/-! NUMBERS AS Int: iI z the int, aI g the row of ints; what a branch, a read, a write is in these words -/
def iI (z : Int) : Int32 := Int32.ofInt z
abbrev in32 (z : Int) : Prop := -2147483648 ≤ z ∧ z < 2147483648
theorem iI_add (a b : Int) : iI a + iI b = iI (a + b) := (Int32.ofInt_add a b).symm
theorem iI_sub (a b : Int) : iI a - iI b = iI (a - b) := (Int32.ofInt_sub a b).symm
theorem iI_mul (a b : Int) : iI a * iI b = iI (a * b) := (Int32.ofInt_mul a b).symm
theorem iI_neg (a : Int) : -iI a = iI (-a) := (Int32.ofInt_neg a).symm
theorem iI_t {z : Int} (h : in32 z) : (iI z).toInt = z := Int32.toInt_ofInt_of_le h.1 h.2
theorem iI_of (x : Int32) : iI x.toInt = x := Int32.ofInt_toInt x
theorem in32_of (x : Int32) : in32 x.toInt := ⟨x.le_toInt, x.toInt_lt⟩
theorem iI_n {z : Int} (h : in32 z) : (iI z).toNatClampNeg = z.toNat := Int32.toNatClampNeg_ofInt_of_le h.1 h.2
theorem iI_0 : iI 0 = 0 := rfl
theorem iI_inj {a b : Int} (ha : in32 a) (hb : in32 b) : iI a = iI b ↔ a = b := ⟨fun h => by rw [← iI_t ha, ← iI_t hb, h], fun h => by rw [h]⟩
theorem iI_lt {a b : Int} (ha : in32 a) (hb : in32 b) : iI a < iI b ↔ a < b := by rw [Int32.lt_iff_toInt_lt, iI_t ha, iI_t hb]
theorem iI_le {a b : Int} (ha : in32 a) (hb : in32 b) : iI a ≤ iI b ↔ a ≤ b := by rw [Int32.le_iff_toInt_le, iI_t ha, iI_t hb]
theorem in32_0 : in32 0 := ⟨by decide, by decide⟩
def aI (g : Int → Int) : Nat → Int32 := fun j => iI (g (j : Int))
def updI (g : Int → Int) (i v : Int) : Int → Int := fun j => if j = i then v else g j
def updS (s : Nat → Int) (k : Nat) (v : Int) : Nat → Int := fun j => if j = k then v else s j
def updA (a : Nat → Int → Int) (k : Nat) (g : Int → Int) : Nat → Int → Int := fun j => if j = k then g else a j
theorem updI_s (g : Int → Int) (i v : Int) : updI g i v i = v := by simp [updI]
theorem updI_n (g : Int → Int) {i j : Int} (v : Int) (h : j ≠ i) : updI g i v j = g j := by simp [updI, h]
theorem aI_upd {g : Int → Int} {i v : Int} (h0 : 0 ≤ i) (h1 : in32 i) : upd (aI g) (iI i).toNatClampNeg (iI v) = aI (updI g i v) := by
  funext j
  unfold upd aI updI
  rw [iI_n h1]
  by_cases hj : j = i.toNat
  · rw [if_pos hj, if_pos (by omega)]
  · rw [if_neg hj, if_neg (by omega)]
theorem pm_ix_I {i : Int} {n : Nat} (h0 : 0 ≤ i) (h1 : i < n) (h2 : in32 i) : pm_ix (iI i) n = some i.toNat := by
  unfold pm_ix
  rw [if_neg, iI_n h2]
  rintro (h | h)
  · have := (iI_lt h2 in32_0).mp h
    omega
  · rw [iI_n h2] at h
    omega
section PMI
variable {scr : Option (Nat × (Nat → Int32))} {d : Nat} {T : pm_M} {pc : Nat} {lv lv2 : pm_L} {st st2 : List Value} {ph ph1 : List va_E} {nc ns : Nat} {Q : Option Value → List va_E → Nat → Nat → Prop} {i : Instr} {len t : Nat} {off : Int} {a b : Int}
theorem pm_i_lt (h0 : pm_as (pm_cd T) pc = some (.ifCond .lt off, len)) (ht : pm_tgt pc off = some t) (ra : in32 a) (k1 : a < 0 → pm_E scr d T t lv st ph nc ns Q) (k2 : 0 ≤ a → pm_E scr d T (pc + 3) lv st ph nc ns Q) : pm_E scr d T pc lv (.int (iI a) :: st) ph nc ns Q :=
  pm_e_if h0 ht (fun h => k1 ((iI_lt ra in32_0).mp (pm_cz_lt.mp h))) (fun h => k2 (by
    rcases Int.lt_or_le a 0 with q | q
    · cases (h.symm.trans (pm_cz_lt.mpr ((iI_lt ra in32_0).mpr q)))
    · exact q))
theorem pm_i_ge (h0 : pm_as (pm_cd T) pc = some (.ifCond .ge off, len)) (ht : pm_tgt pc off = some t) (ra : in32 a) (k1 : 0 ≤ a → pm_E scr d T t lv st ph nc ns Q) (k2 : a < 0 → pm_E scr d T (pc + 3) lv st ph nc ns Q) : pm_E scr d T pc lv (.int (iI a) :: st) ph nc ns Q :=
  pm_e_if h0 ht (fun h => k1 ((iI_le in32_0 ra).mp (pm_cz_ge.mp h))) (fun h => k2 (by
    rcases Int.lt_or_le a 0 with q | q
    · exact q
    · cases (h.symm.trans (pm_cz_ge.mpr ((iI_le in32_0 ra).mpr q)))))
theorem pm_i_gt (h0 : pm_as (pm_cd T) pc = some (.ifCond .gt off, len)) (ht : pm_tgt pc off = some t) (ra : in32 a) (k1 : 0 < a → pm_E scr d T t lv st ph nc ns Q) (k2 : a ≤ 0 → pm_E scr d T (pc + 3) lv st ph nc ns Q) : pm_E scr d T pc lv (.int (iI a) :: st) ph nc ns Q :=
  pm_e_if h0 ht (fun h => k1 ((iI_lt in32_0 ra).mp (pm_cz_gt.mp h))) (fun h => k2 (by
    rcases Int.lt_or_le 0 a with q | q
    · cases (h.symm.trans (pm_cz_gt.mpr ((iI_lt in32_0 ra).mpr q)))
    · exact q))
theorem pm_i_le (h0 : pm_as (pm_cd T) pc = some (.ifCond .le off, len)) (ht : pm_tgt pc off = some t) (ra : in32 a) (k1 : a ≤ 0 → pm_E scr d T t lv st ph nc ns Q) (k2 : 0 < a → pm_E scr d T (pc + 3) lv st ph nc ns Q) : pm_E scr d T pc lv (.int (iI a) :: st) ph nc ns Q :=
  pm_e_if h0 ht (fun h => k1 ((iI_le ra in32_0).mp (pm_cz_le.mp h))) (fun h => k2 (by
    rcases Int.lt_or_le 0 a with q | q
    · exact q
    · cases (h.symm.trans (pm_cz_le.mpr ((iI_le ra in32_0).mpr q)))))
theorem pm_i_eq (h0 : pm_as (pm_cd T) pc = some (.ifCond .eq off, len)) (ht : pm_tgt pc off = some t) (ra : in32 a) (k1 : a = 0 → pm_E scr d T t lv st ph nc ns Q) (k2 : a ≠ 0 → pm_E scr d T (pc + 3) lv st ph nc ns Q) : pm_E scr d T pc lv (.int (iI a) :: st) ph nc ns Q :=
  pm_e_if h0 ht (fun h => k1 ((iI_inj ra in32_0).mp (pm_cz_eq.mp h))) (fun h => k2 (fun q => by
    cases (h.symm.trans (pm_cz_eq.mpr ((iI_inj ra in32_0).mpr q)))))
theorem pm_i_ne (h0 : pm_as (pm_cd T) pc = some (.ifCond .ne off, len)) (ht : pm_tgt pc off = some t) (ra : in32 a) (k1 : a ≠ 0 → pm_E scr d T t lv st ph nc ns Q) (k2 : a = 0 → pm_E scr d T (pc + 3) lv st ph nc ns Q) : pm_E scr d T pc lv (.int (iI a) :: st) ph nc ns Q :=
  pm_e_if h0 ht (fun h => k1 (fun q => pm_cz_ne.mp h ((iI_inj ra in32_0).mpr q))) (fun h => k2 (by
    rcases Decidable.em (a = 0) with q | q
    · exact q
    · cases (h.symm.trans (pm_cz_ne.mpr (fun z => q ((iI_inj ra in32_0).mp z))))))
theorem pm_c_lt (h0 : pm_as (pm_cd T) pc = some (.if_icmp .lt off, len)) (ht : pm_tgt pc off = some t) (ra : in32 a) (rb : in32 b) (k1 : a < b → pm_E scr d T t lv st ph nc ns Q) (k2 : b ≤ a → pm_E scr d T (pc + 3) lv st ph nc ns Q) : pm_E scr d T pc lv (.int (iI b) :: .int (iI a) :: st) ph nc ns Q :=
  pm_e_ic h0 ht (fun h => k1 ((iI_lt ra rb).mp (pm_cz_lt.mp h))) (fun h => k2 (by
    rcases Int.lt_or_le a b with q | q
    · cases (h.symm.trans (pm_cz_lt.mpr ((iI_lt ra rb).mpr q)))
    · exact q))
theorem pm_c_ge (h0 : pm_as (pm_cd T) pc = some (.if_icmp .ge off, len)) (ht : pm_tgt pc off = some t) (ra : in32 a) (rb : in32 b) (k1 : b ≤ a → pm_E scr d T t lv st ph nc ns Q) (k2 : a < b → pm_E scr d T (pc + 3) lv st ph nc ns Q) : pm_E scr d T pc lv (.int (iI b) :: .int (iI a) :: st) ph nc ns Q :=
  pm_e_ic h0 ht (fun h => k1 ((iI_le rb ra).mp (pm_cz_ge.mp h))) (fun h => k2 (by
    rcases Int.lt_or_le a b with q | q
    · exact q
    · cases (h.symm.trans (pm_cz_ge.mpr ((iI_le rb ra).mpr q)))))
theorem pm_c_gt (h0 : pm_as (pm_cd T) pc = some (.if_icmp .gt off, len)) (ht : pm_tgt pc off = some t) (ra : in32 a) (rb : in32 b) (k1 : b < a → pm_E scr d T t lv st ph nc ns Q) (k2 : a ≤ b → pm_E scr d T (pc + 3) lv st ph nc ns Q) : pm_E scr d T pc lv (.int (iI b) :: .int (iI a) :: st) ph nc ns Q :=
  pm_e_ic h0 ht (fun h => k1 ((iI_lt rb ra).mp (pm_cz_gt.mp h))) (fun h => k2 (by
    rcases Int.lt_or_le b a with q | q
    · cases (h.symm.trans (pm_cz_gt.mpr ((iI_lt rb ra).mpr q)))
    · exact q))
theorem pm_c_le (h0 : pm_as (pm_cd T) pc = some (.if_icmp .le off, len)) (ht : pm_tgt pc off = some t) (ra : in32 a) (rb : in32 b) (k1 : a ≤ b → pm_E scr d T t lv st ph nc ns Q) (k2 : b < a → pm_E scr d T (pc + 3) lv st ph nc ns Q) : pm_E scr d T pc lv (.int (iI b) :: .int (iI a) :: st) ph nc ns Q :=
  pm_e_ic h0 ht (fun h => k1 ((iI_le ra rb).mp (pm_cz_le.mp h))) (fun h => k2 (by
    rcases Int.lt_or_le b a with q | q
    · exact q
    · cases (h.symm.trans (pm_cz_le.mpr ((iI_le ra rb).mpr q)))))
theorem pm_c_eq (h0 : pm_as (pm_cd T) pc = some (.if_icmp .eq off, len)) (ht : pm_tgt pc off = some t) (ra : in32 a) (rb : in32 b) (k1 : a = b → pm_E scr d T t lv st ph nc ns Q) (k2 : a ≠ b → pm_E scr d T (pc + 3) lv st ph nc ns Q) : pm_E scr d T pc lv (.int (iI b) :: .int (iI a) :: st) ph nc ns Q :=
  pm_e_ic h0 ht (fun h => k1 ((iI_inj ra rb).mp (pm_cz_eq.mp h))) (fun h => k2 (fun q => by
    cases (h.symm.trans (pm_cz_eq.mpr ((iI_inj ra rb).mpr q)))))
theorem pm_c_ne (h0 : pm_as (pm_cd T) pc = some (.if_icmp .ne off, len)) (ht : pm_tgt pc off = some t) (ra : in32 a) (rb : in32 b) (k1 : a ≠ b → pm_E scr d T t lv st ph nc ns Q) (k2 : a = b → pm_E scr d T (pc + 3) lv st ph nc ns Q) : pm_E scr d T pc lv (.int (iI b) :: .int (iI a) :: st) ph nc ns Q :=
  pm_e_ic h0 ht (fun h => k1 (fun q => pm_cz_ne.mp h ((iI_inj ra rb).mpr q))) (fun h => k2 (by
    rcases Decidable.em (a = b) with q | q
    · exact q
    · cases (h.symm.trans (pm_cz_ne.mpr (fun z => q ((iI_inj ra rb).mp z))))))
/-! cells -/
variable {idx ci j nd ps k n : Nat} {fs : List Value} {v : Value} {g : Int → Int} {x y z : Int}
theorem pm_i_get (h0 : pm_as (pm_cd T) pc = some (.getfield idx, len)) (hf : pm_fr (pm_cn T) idx = some (ci, j, nd, ps)) (hk : ph[k]? = some (.inr (ci, fs))) (hv : fs[j]? = some v) (kk : pm_E scr d T (pc + 3) lv (v :: st) ph nc ns Q) : pm_E scr d T pc lv (.ref k :: st) ph nc ns Q :=
  pm_e_rd h0 rfl rfl (by
    show ((pm_fr (pm_cn T) idx).bind fun w => (pm_ob ph k w.1).bind fun fs => (fs[w.2.1]?).bind fun v => some (v :: st)) = _
    rw [hf]
    show ((pm_ob ph k ci).bind fun fs => (fs[j]?).bind fun v => some (v :: st)) = _
    unfold pm_ob
    rw [hk]
    dsimp only
    rw [if_pos rfl]
    show ((fs[j]?).bind fun v => some (v :: st)) = _
    rw [hv]
    rfl) kk
theorem pm_i_put (h0 : pm_as (pm_cd T) pc = some (.putfield idx, len)) (hf : pm_fr (pm_cn T) idx = some (ci, j, nd, ps)) (hk : ph[k]? = some (.inr (ci, fs))) (hfit : pm_fit (pm_fty ci j) v = true) (hl : j < fs.length) (hnd : nd = 0 ∨ nd = 1) (hs : ph.set k (.inr (ci, fs.set j v)) = ph1) (kk : pm_E scr d T (pc + 3) lv st ph1 nc ns Q) : pm_E scr d T pc lv (v :: .ref k :: st) ph nc ns Q :=
  pm_e_wr h0 rfl rfl rfl (by
    show pm_pf T idx (v :: .ref k :: st) ph = _
    unfold pm_pf
    show ((pm_fr (pm_cn T) idx).bind fun w => (pm_ob ph k w.1).bind fun fs => if pm_fit (pm_fty w.1 w.2.1) v = true ∧ w.2.1 < fs.length ∧ (w.2.2.1 = 0 ∨ w.2.2.1 = 1 ∨ (w.2.2.1 = 2 ∧ pm_ini T = true ∧ w.1 = pm_cn T)) then some (st, k, (.inr (w.1, fs.set w.2.1 v) : va_E)) else none) = _
    rw [hf]
    show ((pm_ob ph k ci).bind fun fs => if pm_fit (pm_fty ci j) v = true ∧ j < fs.length ∧ (nd = 0 ∨ nd = 1 ∨ (nd = 2 ∧ pm_ini T = true ∧ ci = pm_cn T)) then some (st, k, (.inr (ci, fs.set j v) : va_E)) else none) = _
    unfold pm_ob
    rw [hk]
    dsimp only
    rw [if_pos rfl]
    show (if pm_fit (pm_fty ci j) v = true ∧ j < fs.length ∧ (nd = 0 ∨ nd = 1 ∨ (nd = 2 ∧ pm_ini T = true ∧ ci = pm_cn T)) then some (st, k, (.inr (ci, fs.set j v) : va_E)) else none) = _
    rw [if_pos ⟨hfit, hl, hnd.elim Or.inl (fun q => Or.inr (Or.inl q))⟩]) hs kk
theorem pm_i_ald (h0 : pm_as (pm_cd T) pc = some (.iaload, len)) (hk : ph[k]? = some (.inl (0, n, .inl (aI g)))) (h1 : 0 ≤ x) (h2 : x < n) (h3 : in32 x) (kk : pm_E scr d T (pc + 1) lv (.int (iI (g x)) :: st) ph nc ns Q) : pm_E scr d T pc lv (.int (iI x) :: .ref k :: st) ph nc ns Q :=
  pm_e_rd h0 rfl rfl (by
    show ((pm_ia ph k 0).bind fun w => (pm_ix (iI x) w.1).bind fun j => some (.int (w.2 j) :: st)) = _
    unfold pm_ia
    rw [hk]
    dsimp only
    rw [if_pos rfl]
    show ((pm_ix (iI x) n).bind fun j => some (.int (aI g j) :: st)) = _
    rw [pm_ix_I h1 h2 h3]
    show some (Value.int (aI g x.toNat) :: st) = _
    unfold aI
    rw [show ((x.toNat : Nat) : Int) = x by omega]) kk
theorem pm_i_ast (h0 : pm_as (pm_cd T) pc = some (.iastore, len)) (hk : ph[k]? = some (.inl (0, n, .inl (aI g)))) (h1 : 0 ≤ x) (h2 : x < n) (h3 : in32 x) (hs : ph.set k (.inl (0, n, .inl (aI (updI g x y)))) = ph1) (kk : pm_E scr d T (pc + 1) lv st ph1 nc ns Q) : pm_E scr d T pc lv (.int (iI y) :: .int (iI x) :: .ref k :: st) ph nc ns Q :=
  pm_e_wr h0 rfl rfl rfl (by
    show ((pm_ia ph k 0).bind fun w => (pm_ix (iI x) w.1).bind fun j => some (st, k, (.inl (0, w.1, .inl (upd w.2 j (iI y))) : va_E))) = _
    unfold pm_ia
    rw [hk]
    dsimp only
    rw [if_pos rfl]
    show ((pm_ix (iI x) n).bind fun j => some (st, k, (.inl (0, n, .inl (upd (aI g) j (iI y))) : va_E))) = _
    rw [pm_ix_I h1 h2 h3]
    show some (st, k, (.inl (0, n, .inl (upd (aI g) x.toNat (iI y))) : va_E)) = _
    rw [← iI_n h3, aI_upd h1 h3]) hs kk
theorem pm_i_callv {M p1 p2 p3 : Nat} {T2 : pm_M} {rest : List Value} (h0 : pm_as (pm_cd T) pc = some (.invokevirtual idx, len)) (hm : pm_mr (pm_cn T) idx = some (0, M, p1, p2, p3)) (hT : pm_tab[M]? = some T2) (hst : st.drop (pm_na T2) = .ref k :: rest) (hk : ph[k]? = some (.inr (pm_cn T2, fs))) (hc : pm_sum rest ≤ 8 ∧ pm_sum (.ref k :: (st.take (pm_na T2)).reverse) ≤ pm_ml T2 ∧ (st.take (pm_na T2)).length = pm_na T2 ∧ pm_ps T2 ≠ 0)
    (kk : pm_E none d T2 0 (lv_args 0 (.ref k :: (st.take (pm_na T2)).reverse)) [] ph 0 0 (fun v ph2 c n => pm_E scr (d + 1) T (pc + 3) lv (v.toList ++ rest) ph2 (nc + c) (ns + n) Q)) : pm_E scr (d + 1) T pc lv st ph nc ns Q :=
  pm_e_call h0 rfl rfl rfl rfl rfl rfl rfl rfl (by
    simp only [pm_cal, hm, hT, hst, Option.bind_some]
    show ((pm_ob ph k (pm_cn T2)).bind fun _ => if True ∧ pm_sum rest ≤ 8 ∧ pm_sum (.ref k :: (st.take (pm_na T2)).reverse) ≤ pm_ml T2 ∧ (st.take (pm_na T2)).length = pm_na T2 ∧ pm_ps T2 ≠ 0 then some (T2, .ref k :: (st.take (pm_na T2)).reverse, rest) else none) = _
    unfold pm_ob
    rw [hk]
    dsimp only
    rw [if_pos rfl]
    show (if True ∧ pm_sum rest ≤ 8 ∧ pm_sum (.ref k :: (st.take (pm_na T2)).reverse) ≤ pm_ml T2 ∧ (st.take (pm_na T2)).length = pm_na T2 ∧ pm_ps T2 ≠ 0 then some (T2, .ref k :: (st.take (pm_na T2)).reverse, rest) else none) = _
    rw [if_pos ⟨trivial, hc⟩]) kk
end PMI
