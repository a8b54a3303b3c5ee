/-! THE PURE MACHINE, 6: library calls, returns, calls, the run -/
def pm_sum (st : List Value) : Nat := (st.map fun v => v.category).sum
def pm_mx (k : Nat) (st : List Value) : Option (List Value) := match st with
  | .int y :: .int x :: r => if pm_sum r ≤ 8 then (if k = 5 then some (.int (if x < y then y else x) :: r) else if k = 6 then some (.int (if y < x then y else x) :: r) else none) else none
  | _ => none
def pm_oi (k : Nat) (st : List Value) : Option (List Value) := match st with
  | .ref _ :: r => if k = 4 ∧ pm_sum r ≤ 8 then some r else none
  | _ => none
def pm_nat (T : pm_M) (i : Instr) (st : List Value) : Option (List Value) := match i with
  | .invokestatic idx => (pm_mr (pm_cn T) idx).bind fun w => pm_mx w.1 st
  | .invokespecial idx => (pm_mr (pm_cn T) idx).bind fun w => pm_oi w.1 st
  | _ => none
def pm_cp5 (k : Nat) (st : List Value) (ph : List va_E) : Option (List Value × Nat × va_E) := match st with
  | .int n :: .int dp :: .ref a :: .int sp :: .ref b :: r => (pm_ia ph b 0).bind fun x => (pm_ia ph a 0).bind fun y =>
    if k = 7 ∧ ¬ sp < 0 ∧ ¬ dp < 0 ∧ ¬ n < 0 ∧ sp.toNatClampNeg + n.toNatClampNeg ≤ x.1 ∧ dp.toNatClampNeg + n.toNatClampNeg ≤ y.1 ∧ pm_sum r ≤ 8 then some (r, a, .inl (0, y.1, .inl (va_cpy x.2 y.2 sp.toNatClampNeg dp.toNatClampNeg n.toNatClampNeg))) else none
  | _ => none
def pm_cpw (T : pm_M) (i : Instr) (st : List Value) (ph : List va_E) : Option (List Value × Nat × va_E) := match i with
  | .invokestatic idx => (pm_mr (pm_cn T) idx).bind fun w => pm_cp5 w.1 st ph
  | _ => none
def pm_rvd (T : pm_M) (st : List Value) : Option (Option Value) := match st, pm_re T with
  | [], none => some none
  | _, _ => none
def pm_rin (T : pm_M) (st : List Value) : Option (Option Value) := match st, pm_re T with
  | [.int v], some ty => if pm_fit ty (.int v) = true then some (some (.int v)) else none
  | _, _ => none
def pm_rar (T : pm_M) (st : List Value) : Option (Option Value) := match st, pm_re T with
  | [.ref a], some (.object _) => some (some (.ref a))
  | [.null], some (.object _) => some (some .null)
  | _, _ => none
def pm_ret (T : pm_M) (i : Instr) (st : List Value) : Option (Option Value) := match i with
  | .return_ => pm_rvd T st
  | .ireturn => pm_rin T st
  | .areturn => pm_rar T st
  | _ => none
def pm_cal (T : pm_M) (i : Instr) (st : List Value) (ph : List va_E) : Option (pm_M × List Value × List Value) := match i with
  | .invokevirtual idx => (pm_mr (pm_cn T) idx).bind fun w => (pm_tab[w.2.1]?).bind fun T2 => match pm_s2 (st.drop (pm_na T2)) with
    | some q => if w.1 = 8 ∧ (q.1 = 0 ∨ q.1 = 2) ∧ pm_sum q.2 ≤ 8 ∧ pm_sum (.retAddr (q.1 + 1) :: (st.take (pm_na T2)).reverse) ≤ pm_ml T2 ∧ (st.take (pm_na T2)).length = pm_na T2 ∧ pm_ps T2 ≠ 0 then some (T2, .retAddr (q.1 + 1) :: (st.take (pm_na T2)).reverse, q.2) else none
    | none => (pm_r1 (st.drop (pm_na T2))).bind fun q => (pm_ob ph q.1 (pm_cn T2)).bind fun _ =>
    if w.1 = 0 ∧ pm_sum q.2 ≤ 8 ∧ pm_sum (.ref q.1 :: (st.take (pm_na T2)).reverse) ≤ pm_ml T2 ∧ (st.take (pm_na T2)).length = pm_na T2 ∧ pm_ps T2 ≠ 0 then some (T2, .ref q.1 :: (st.take (pm_na T2)).reverse, q.2) else none
  | .invokespecial idx => (pm_mr (pm_cn T) idx).bind fun w => (pm_tab[w.2.1]?).bind fun T2 => (pm_r1 (st.drop (pm_na T2))).bind fun q =>
    if (w.1 = 1 ∨ w.1 = 2) ∧ pm_sum q.2 ≤ 8 ∧ pm_sum (.ref q.1 :: (st.take (pm_na T2)).reverse) ≤ pm_ml T2 ∧ (st.take (pm_na T2)).length = pm_na T2 ∧ pm_ps T2 ≠ 0 then some (T2, .ref q.1 :: (st.take (pm_na T2)).reverse, q.2) else none
  | .invokestatic idx => (pm_mr (pm_cn T) idx).bind fun w => (pm_tab[w.2.1]?).bind fun T2 =>
    if w.1 = 3 ∧ pm_sum (st.drop (pm_na T2)) ≤ 8 ∧ pm_sum (st.take (pm_na T2)).reverse ≤ pm_ml T2 ∧ (st.take (pm_na T2)).length = pm_na T2 ∧ pm_ps T2 ≠ 0 then some (T2, (st.take (pm_na T2)).reverse, st.drop (pm_na T2)) else none
  | _ => none
def pm_run : Nat → Option (Nat × (Nat → Int32)) → Nat → pm_M → Nat → pm_L → List Value → List va_E → Nat → Nat → Option (Option Value × List va_E × Nat × Nat)
  | 0, _, _, _, _, _, _, _, _, _ => none
  | f + 1, scr, d, T, pc, lv, st, ph, nc, ns =>
    match pm_as (pm_cd T) pc with
    | none => none
    | some w =>
      match pm_sim (pm_ml T) w.1 lv st with
      | some x => pm_run f scr d T (pc + pm_len w.1) x.1 x.2 ph nc ns
      | none => match pm_jmp w.1 pc st with
        | some x => pm_run f scr d T x.1 lv x.2 ph nc ns
        | none => match pm_rd T scr w.1 st ph with
          | some x => pm_run f scr d T (pc + pm_len w.1) lv x ph nc ns
          | none => match pm_wr T w.1 st ph with
            | some x => pm_run f scr d T (pc + pm_len w.1) lv x.1 (ph.set x.2.1 x.2.2) nc ns
            | none => match pm_nw T w.1 st with
              | some x => pm_run f scr d T (pc + pm_len w.1) lv (.ref ph.length :: x.1) (ph ++ [x.2.1]) (nc + 1) (ns + x.2.2)
              | none => match pm_nat T w.1 st with
                | some x => pm_run f scr d T (pc + pm_len w.1) lv x ph nc ns
                | none => match pm_cpw T w.1 st ph with
                  | some x => pm_run f scr d T (pc + pm_len w.1) lv x.1 (ph.set x.2.1 x.2.2) nc ns
                  | none => match pm_ret T w.1 st with
                    | some v => some (v, ph, nc, ns)
                    | none => match d with
                      | 0 => none
                      | d2 + 1 => match pm_cal T w.1 st ph with
                        | none => none
                        | some x => match pm_run f none d2 x.1 0 (lv_args 0 x.2.1) [] ph 0 0 with
                          | none => none
                          | some y => pm_run f scr (d2 + 1) T (pc + pm_len w.1) lv (y.1.toList ++ x.2.2) y.2.1 (nc + y.2.2.1) (ns + y.2.2.2)
theorem pm_run_mono : ∀ (f : Nat) {scr : Option (Nat × (Nat → Int32))} {d : Nat} {T : pm_M} {pc : Nat} {lv : pm_L} {st : List Value} {ph : List va_E} {nc ns : Nat} {v : Option Value} {ph2 : List va_E} {nc2 ns2 : Nat}, pm_run f scr d T pc lv st ph nc ns = some (v, ph2, nc2, ns2) → nc ≤ nc2 ∧ ns ≤ ns2
  | 0, _, _, _, _, _, _, _, _, _, _, _, _, _, h => by cases h
  | f + 1, scr, d, T, pc, lv, st, ph, nc, ns, v, ph2, nc2, ns2, h => by
    unfold pm_run at h
    split at h
    · cases h
    split at h
    · exact pm_run_mono f h
    split at h
    · exact pm_run_mono f h
    split at h
    · exact pm_run_mono f h
    split at h
    · exact pm_run_mono f h
    split at h
    · have := pm_run_mono f h
      omega
    split at h
    · exact pm_run_mono f h
    split at h
    · exact pm_run_mono f h
    split at h
    · cases h
      exact ⟨Nat.le_refl _, Nat.le_refl _⟩
    split at h
    · cases h
    split at h
    · cases h
    split at h
    · cases h
    have := pm_run_mono f h
    omega
theorem pm_isw_none {i : Instr} (h : pm_isw i = true) (nL : Nat) (lv : pm_L) (st : List Value) (T : pm_M) (scr : Option (Nat × (Nat → Int32))) (ph : List va_E) : pm_sim nL i lv st = none ∧ pm_rd T scr i st ph = none ∧ pm_wr T i st ph = none ∧ pm_nw T i st = none ∧ pm_nat T i st = none ∧ pm_cpw T i st ph = none ∧ pm_ret T i st = none ∧ pm_cal T i st ph = none := by
  cases i
  case tableswitch => exact ⟨rfl, rfl, rfl, rfl, rfl, rfl, rfl, rfl⟩
  case lookupswitch => exact ⟨rfl, rfl, rfl, rfl, rfl, rfl, rfl, rfl⟩
  all_goals cases h
theorem pm_lg_len : ∀ (vs : List Value), (lg_sl vs).length = pm_sum vs
  | [] => rfl
  | v :: r => by
    have ih := pm_lg_len r
    unfold lg_sl pm_sum at *
    rw [List.flatMap_cons, List.length_append, ih, List.map_cons, List.sum_cons]
    rcases lv_cat v with hc | hc
    · rw [if_neg (by omega), hc]; rfl
    · rw [if_pos hc, hc]; rfl
theorem pm_rs_sum {bS : Nat → Nat} {ad : List Nat} {a a' : List Value} (h : pm_rs bS ad a a') : pm_sum a' = pm_sum a := by
  unfold pm_sum
  rw [pm_rs_cats h]
theorem pm_rl_args {bS : Nat → Nat} {ad : List Nat} : ∀ {a a' : List Value} (n : Nat), pm_rs bS ad a a' → pm_rl bS ad (lv_args n a) (lv_args n a')
  | [], [], _, _ => trivial
  | v :: r, w :: r', n, h => by
    unfold lv_args
    rw [h.1.cat]
    exact ⟨rfl, h.1, pm_rl_args _ h.2⟩
  | [], _ :: _, _, h => h.elim
  | _ :: _, [], _, h => h.elim
def pm_rov (bS : Nat → Nat) (ad : List Nat) (v w : Option Value) : Prop := match v, w with
  | none, none => True
  | some v, some w => pm_rv bS ad v w
  | _, _ => False
def pm_PC (bS : Nat → Nat) (D : va_G) (ws : va_W) (ad : List Nat) (ph : List va_E) (sz : Nat) (U : State) : Prop := U.heap.size = sz ∧ va_P D pm_cl ws U.heap ∧ va_K D pm_cl [] U ∧ va_D (fun _ => True) ws ∧ pm_Nn U ∧ pm_rw bS ad U ph ws ∧ pm_Z bS (va_A ws sz) U U.heap
def pm_QC (bS : Nat → Nat) (D : va_G) (ws : va_W) (ad : List Nat) (sz : Nat) (v : Option Value) (ph2 : List va_E) : Array Value → State → Outcome → State → Prop := fun _ st oc t => (∃ (vA : Option Value) (ad2 : List Nat) (ws2 : va_W), oc = .returned vA ∧ pm_rov bS (ad ++ ad2) v vA ∧ pm_rw bS (ad ++ ad2) t ph2 ws2 ∧ va_P D pm_cl ws2 t.heap ∧ va_D (va_A ws sz) ws2) ∧ va_F (va_A ws sz) st t
def pm_wd (T : pm_M) : List Cond := .code (pm_nm T) (pm_by T) (pm_ml T) (pm_re T) :: pm_tb
def pm_rm (d c n : Nat) : Room := { frames := d + 1, cells := c, slots := n, locals := 40 * (d + 1) }
def pm_cx (D : va_G) (p : Program) (s : State) (m : MethodId) (args : Array Value) (meth : Method) (c : Code) (T : pm_M) : Prop :=
  p.tables.exec = Jvm.exec ∧ c.code = pm_by T ∧ c.maxLocals = pm_ml T ∧ s.vm.findClass (pm_ow (pm_cn T)) = some m.cls ∧ (pm_ini T = true → meth.name = "<init>") ∧ (∀ w ∈ pm_tb, w.before args s = true) ∧ pm_Nn s ∧ va_K D pm_cl [] s
/-- the machine does what a run of f steps says -/
def pm_Snd (l : Launch) (f : Nat) : Prop := ∀ (bS : Nat → Nat) (scr : Option (Nat × (Nat → Int32))) (d : Nat) (T : pm_M) (pc : Nat) (lv : pm_L) (st : List Value) (ph : List va_E) (nc ns : Nat) (v : Option Value) (ph2 : List va_E) (nc2 ns2 : Nat), pm_run f scr d T pc lv st ph nc ns = some (v, ph2, nc2, ns2) → pm_dck T = true →
  ∀ (D : va_G) (p : Program) (e : Env) (R : Room) (s : State) (m : MethodId) (args : Array Value) (below : List Frame) (meth : Method) (c : Code) (H : Heap) (locs : List Loc) (Q : State → Prop) (A : Nat → Prop) (H0 : Heap) (ws : va_W) (ad : List Nat) (ls : Array Slot) (lvA : pm_L) (stA : List Value),
  pm_cx D p s m args meth c T → d + 1 ≤ R.frames → 40 * (d + 1) ≤ R.locals → nc2 ≤ R.cells → ns2 ≤ R.slots →
  va_P D pm_cl ws H → va_D A ws → va_S A H0 H locs → (∀ q, H0.size ≤ q → A q) → pm_rw bS ad s ph ws → lv_has ls (pm_ml T) lvA → pm_rl bS ad lv lvA → pm_rs bS ad st stA → (∀ x, scr = some x → va_X (bS 0) x.1 x.2 s H0 ∧ bS 0 < H0.size ∧ ¬ A (bS 0)) → (pm_Z bS A s H0 ∧ H0 = s.heap) →
  (∀ (H1 : Heap) (locs1 : List Loc) (ws1 : va_W) (ad2 : List Nat) (ls1 : Array Slot) (pc1 : Nat) (i1 : Instr) (st1 stA1 : List Value), pm_ret T i1 st1 = some v → decode (pm_by T) pc1 = .ok (i1, pm_len i1) → pm_rs bS (ad ++ ad2) st1 stA1 → pm_rw bS (ad ++ ad2) s ph2 ws1 → va_P D pm_cl ws1 H1 → va_D A ws1 → va_S A H0 H1 locs1 → W p l e R s m args below meth c H1 locs1 nc2 ns2 Q (F0 m pc1 ls1 stA1)) →
  W p l e R s m args below meth c H locs nc ns Q (F0 m pc ls stA)
/-- what a method's row of the table says -/
theorem pm_tck_use {T : pm_M} (h : pm_tck T = true) : pm_ow (pm_cn T) = (pm_nm T).cls ∧ (pm_ini T = true → (pm_nm T).name = "<init>") ∧ (pm_ps T ≠ 0 → Cond.initialized (pm_nm T).cls ∈ pm_tb ∧ plainName (pm_nm T).cls = true ∧ (pm_nm T).cls ≠ "java/lang/invoke/MethodHandle" ∧ (pm_nm T).cls ≠ "java/lang/invoke/VarHandle" ∧ (parseMethodDescriptor (pm_nm T).desc).map (fun d => d.parameters.length) = some (pm_na T) ∧ pm_ml T ≤ 21) := by
  unfold pm_tck at h
  simp only [Bool.and_eq_true, Bool.or_eq_true, decide_eq_true_eq, Bool.not_eq_true'] at h
  obtain ⟨⟨h1, h2⟩, h3⟩ := h
  refine ⟨h1, fun q => ?_, fun q => ?_⟩
  · rcases h2 with h2 | h2
    · rw [h2] at q; cases q
    · exact h2
  · rcases h3 with h3 | h3
    · exact absurd h3 q
    · obtain ⟨⟨⟨⟨⟨a2, a3⟩, a4⟩, a5⟩, a6⟩, a7⟩ := h3
      exact ⟨pm_at_good a2 rfl, a3, a4, a5, a6, a7⟩
theorem pm_met {l : Launch} {f : Nat} (hf : pm_Snd l f) {bS : Nat → Nat} {d : Nat} {T : pm_M} {as : List Value} {ph : List va_E} {v : Option Value} {ph2 : List va_E} {c2 n2 : Nat} (h : pm_run f none d T 0 (lv_args 0 as) [] ph 0 0 = some (v, ph2, c2, n2)) (hg : pm_dck T = true) (ht : pm_tck T = true) (hps : pm_ps T ≠ 0) (hsum : pm_sum as ≤ pm_ml T)
    {D : va_G} {ws : va_W} {ad : List Nat} {sz : Nat} {asA : List Value} (has : pm_rs bS ad as asA) : Met l (pm_nm T) (pm_wd T) (pm_rm d c2 n2) (va_Pc asA (pm_PC bS D ws ad ph sz)) (pm_QC bS D ws ad sz v ph2) c2 n2 (va_A ws sz) := by
  obtain ⟨t1, t2, t3⟩ := pm_tck_use ht
  obtain ⟨-, hpl, -⟩ := t3 hps
  refine Met.ofW (cc := pm_by T) (maxL := pm_ml T) (ret := pm_re T) hpl rfl ?_
  intro p e s m args below meth c s₁ B hml hv
  obtain ⟨rfl, hsz, hP, hK, hD0, hN, hw, hZ⟩ := hv
  have hts := atoms_spec (ws := pm_wd T) B.pre
  have hown : s.vm.findClass (pm_nm T).cls = some m.cls := findClass_of_methodNamed B.named
  have hnm : meth.name = (pm_nm T).name := (name_of_methodNamed B.named B.method).1
  subst hsz
  have hD := hD0.self (sz := s.heap.size)
  have hl := lv_entry asA (n := pm_ml T) (by rw [pm_lg_len, pm_rs_sum has]; exact hsum)
  rw [lg_entry_eq]
  generalize (lg_sl asA ++ List.replicate (pm_ml T - (lg_sl asA).length) Slot.unset).toArray = ls at hl ⊢
  have hlocks := B.notSynchronized
  refine hf bS none d T 0 (lv_args 0 as) [] ph 0 0 v ph2 c2 n2 h hg D p e _ s m _ below meth c s.heap [] _ (va_A ws s.heap.size) s.heap ws ad ls (lv_args 0 asA) [] ⟨B.exec, B.bytes, hml, by rw [t1]; exact hown, fun q => by rw [hnm]; exact t2 q, fun w hw => hts w (List.mem_cons_of_mem _ hw), hN, hK⟩ (Nat.le_refl _) (Nat.le_refl _) (Nat.le_refl _) (Nat.le_refl _) hP hD va_S.rf (fun q h => Or.inr h) hw hl (pm_rl_args 0 has) trivial (fun x q => by cases q) ⟨hZ, rfl⟩ ?_
  intro H1 locs1 ws1 ad2 ls1 pc1 i1 st1 stA1 hret hdec hst hw1 hP1 hD1 hS1
  cases i1
  case return_ =>
    replace hret : pm_rvd T st1 = some v := hret
    unfold pm_rvd at hret
    split at hret
    · rename_i hre
      cases hret
      obtain rfl := pm_rs_nil hst
      exact W.vret B.exec B.bytes (B.returns.trans hre) (fun t ht hW => ⟨⟨none, ad2, ws1, rfl, trivial, hw1.moved hW.alike, by rw [ht]; exact hP1, hD1⟩, hS1.F ht⟩) hS1.2.2 hdec
    · cases hret
  case ireturn =>
    replace hret : pm_rin T st1 = some v := hret
    unfold pm_rin at hret
    split at hret
    · rename_i x ty hre
      split at hret
      · rename_i hfit
        cases hret
        obtain ⟨r1, rfl, hr1⟩ := pm_rs_i hst
        obtain rfl := pm_rs_nil hr1
        exact W.zret B.exec B.bytes (B.returns.trans hre) (pm_fit_ok (bS := bS) (ad := ad) hfit rfl).1 (fun t ht hW => ⟨⟨some (.int x), ad2, ws1, rfl, rfl, hw1.moved hW.alike, by rw [ht]; exact hP1, hD1⟩, hS1.F ht⟩) hS1.2.2 hdec
      · cases hret
    · cases hret
  case areturn =>
    replace hret : pm_rar T st1 = some v := hret
    unfold pm_rar at hret
    split at hret
    · rename_i a cN hre
      cases hret
      obtain ⟨a', r1, ha, rfl, hr1⟩ := pm_rs_r hst
      obtain rfl := pm_rs_nil hr1
      exact W.aret B.exec B.bytes (B.returns.trans hre) (Or.inl ⟨_, rfl⟩) (Or.inr ⟨_, rfl⟩) (fun t ht hW => ⟨⟨some (.ref a'), ad2, ws1, rfl, ⟨a', ha, rfl⟩, hw1.moved hW.alike, by rw [ht]; exact hP1, hD1⟩, hS1.F ht⟩) hS1.2.2 hdec
    · rename_i cN hre
      cases hret
      obtain ⟨r1, rfl, hr1⟩ := pm_rs_n hst
      obtain rfl := pm_rs_nil hr1
      exact W.aret B.exec B.bytes (B.returns.trans hre) (Or.inl ⟨_, rfl⟩) (Or.inl rfl) (fun t ht hW => ⟨⟨some .null, ad2, ws1, rfl, rfl, hw1.moved hW.alike, by rw [ht]; exact hP1, hD1⟩, hS1.F ht⟩) hS1.2.2 hdec
    · cases hret
  all_goals exact nomatch (show (none : Option (Option Value)) = some v from hret)
