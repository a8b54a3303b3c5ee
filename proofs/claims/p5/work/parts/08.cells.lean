/-! THE PURE MACHINE, 4: instructions that read, write and make cells (over the tables pm_fr, pm_nr, pm_ar, pm_cl of the part ahead) -/
def pm_r1 (st : List Value) : Option (Nat × List Value) := match st with
  | .ref a :: r => some (a, r)
  | _ => none
theorem pm_r1_ok {st r : List Value} {a : Nat} (h : pm_r1 st = some (a, r)) : st = .ref a :: r := by
  unfold pm_r1 at h; split at h
  · cases h; rfl
  · cases h
def pm_ob (ph : List va_E) (a ci : Nat) : Option (List Value) := match ph[a]? with
  | some (.inr q) => if q.1 = ci then some q.2 else none
  | _ => none
theorem pm_ob_ok {ph : List va_E} {a ci : Nat} {fs : List Value} (h : pm_ob ph a ci = some fs) : ph[a]? = some (.inr (ci, fs)) := by
  unfold pm_ob at h; split at h
  · rename_i q hq
    split at h
    · rename_i hc
      cases h
      rw [hq, ← hc]
    · cases h
  · cases h
def pm_ia (ph : List va_E) (a tg : Nat) : Option (Nat × (Nat → Int32)) := match ph[a]? with
  | some (.inl (t, n, .inl f)) => if t = tg then some (n, f) else none
  | _ => none
def pm_la (ph : List va_E) (a tg : Nat) : Option (Nat × (Nat → Int64)) := match ph[a]? with
  | some (.inl (t, n, .inr (.inl f))) => if t = tg then some (n, f) else none
  | _ => none
def pm_ra (ph : List va_E) (a tg : Nat) : Option (Nat × (Nat → Option Nat)) := match ph[a]? with
  | some (.inl (t, n, .inr (.inr (.inr (.inr f))))) => if t = tg then some (n, f) else none
  | _ => none
theorem pm_ia_ok {ph : List va_E} {a tg n : Nat} {f : Nat → Int32} (h : pm_ia ph a tg = some (n, f)) : ph[a]? = some (.inl (tg, n, .inl f)) := by
  unfold pm_ia at h; split at h
  · rename_i hq
    split at h
    · rename_i hc; cases h; rw [hq, hc]
    · cases h
  · cases h
theorem pm_la_ok {ph : List va_E} {a tg n : Nat} {f : Nat → Int64} (h : pm_la ph a tg = some (n, f)) : ph[a]? = some (.inl (tg, n, .inr (.inl f))) := by
  unfold pm_la at h; split at h
  · rename_i hq
    split at h
    · rename_i hc; cases h; rw [hq, hc]
    · cases h
  · cases h
theorem pm_ra_ok {ph : List va_E} {a tg n : Nat} {f : Nat → Option Nat} (h : pm_ra ph a tg = some (n, f)) : ph[a]? = some (.inl (tg, n, .inr (.inr (.inr (.inr f))))) := by
  unfold pm_ra at h; split at h
  · rename_i hq
    split at h
    · rename_i hc; cases h; rw [hq, hc]
    · cases h
  · cases h
def pm_ix (i : Int32) (n : Nat) : Option Nat := if i < 0 ∨ n ≤ i.toNatClampNeg then none else some i.toNatClampNeg
theorem pm_ix_ok {i : Int32} {n j : Nat} (h : pm_ix i n = some j) : vp_in i n ∧ j = i.toNatClampNeg := by
  unfold pm_ix at h; split at h
  · cases h
  · rename_i hc; cases h; exact ⟨hc, rfl⟩
def pm_aln (ph : List va_E) (a : Nat) : Option Nat := match ph[a]? with
  | some (.inl (_, n, .inl _)) => some n
  | some (.inl (_, n, .inr (.inl _))) => some n
  | some (.inl (_, n, .inr (.inr (.inr (.inr _))))) => some n
  | _ => none
def pm_s1 (st : List Value) : Option (List Value) := match st with
  | .retAddr 0 :: r => some r
  | _ => none
theorem pm_s1_ok {st r : List Value} (h : pm_s1 st = some r) : st = .retAddr 0 :: r := by
  unfold pm_s1 at h; split at h
  · cases h; rfl
  · cases h
def pm_s2 (st : List Value) : Option (Nat × List Value) := match st with
  | .retAddr (k + 1) :: r => some (k, r)
  | _ => none
theorem pm_s2_ok {st r : List Value} {k : Nat} (h : pm_s2 st = some (k, r)) : st = .retAddr (k + 1) :: r := by
  unfold pm_s2 at h; split at h
  · cases h; rfl
  · cases h
/-- reads -/
def pm_rd (T : pm_M) (scr : Option (Nat × (Nat → Int32))) (i : Instr) (st : List Value) (ph : List va_E) : Option (List Value) := match i with
  | .getfield idx => match pm_s2 st with
    | some q => (pm_sr (pm_cn T) idx).bind fun w => if (q.1 = 0 ∨ q.1 = 2) ∧ w.1 = 0 then some (.retAddr (q.1 + 2) :: q.2) else if (q.1 = 0 ∨ q.1 = 2) ∧ w.1 = 1 then some (.int 0 :: q.2) else none
    | none => (pm_r1 st).bind fun q => (pm_fr (pm_cn T) idx).bind fun w => (pm_ob ph q.1 w.1).bind fun fs => (fs[w.2.1]?).bind fun v => some (v :: q.2)
  | .iaload => (pm_i1 st).bind fun q => match pm_s1 q.2 with
    | some r => scr.bind fun x => (pm_ix q.1 x.1).bind fun j => some (.int (x.2 j) :: r)
    | none => (pm_r1 q.2).bind fun w => (pm_ia ph w.1 0).bind fun x => (pm_ix q.1 x.1).bind fun j => some (.int (x.2 j) :: w.2)
  | .baload => (pm_i1 st).bind fun q => match pm_s2 q.2 with
    | some z => if z.1 = 1 ∨ z.1 = 3 then (pm_ix q.1 5).bind fun j => some (.int (pm_b5 j) :: z.2) else none
    | none => (pm_r1 q.2).bind fun w => (pm_ia ph w.1 1).bind fun x => (pm_ix q.1 x.1).bind fun j => some (.int (x.2 j) :: w.2)
  | .laload => (pm_i1 st).bind fun q => (pm_r1 q.2).bind fun w => (pm_la ph w.1 2).bind fun x => (pm_ix q.1 x.1).bind fun j => some (.long (x.2 j) :: w.2)
  | .aaload => (pm_i1 st).bind fun q => (pm_r1 q.2).bind fun w => (pm_ra ph w.1 3).bind fun x => (pm_ix q.1 x.1).bind fun j => some (pm_vo (x.2 j) :: w.2)
  | .arraylength => match pm_s1 st with
    | some r => scr.bind fun x => some (.int (Int32.ofNat x.1) :: r)
    | none => match pm_s2 st with
      | some z => if z.1 = 1 ∨ z.1 = 3 then some (.int 5 :: z.2) else none
      | none => (pm_r1 st).bind fun w => (pm_aln ph w.1).bind fun n => some (.int (Int32.ofNat n) :: w.2)
  | .getstatic idx => (pm_sr (pm_cn T) idx).bind fun w => if w.1 = 2 then some (.int 1 :: st) else if w.1 = 3 then some (.retAddr 5 :: st) else none
  | .ldc idx => (pm_sr (pm_cn T) idx).bind fun w => if w.1 = 4 then some (.retAddr 1 :: st) else if w.1 = 5 then some (.retAddr 3 :: st) else none
  | .ldc2_w idx => (pm_lk (pm_cn T) idx).bind fun v => some (.long v.1 :: st)
  | _ => none
def pm_pf (T : pm_M) (idx : Nat) (st : List Value) (ph : List va_E) : Option (List Value × Nat × va_E) := match st with
  | v :: st1 => (pm_r1 st1).bind fun q => (pm_fr (pm_cn T) idx).bind fun w => (pm_ob ph q.1 w.1).bind fun fs => if pm_fit (pm_fty w.1 w.2.1) v = true ∧ w.2.1 < fs.length ∧ (w.2.2.1 = 0 ∨ w.2.2.1 = 1 ∨ (w.2.2.1 = 2 ∧ pm_ini T = true ∧ w.1 = pm_cn T)) then some (q.2, q.1, .inr (w.1, fs.set w.2.1 v)) else none
  | _ => none
/-- writes: the place, the new cell, the stack behind -/
def pm_wr (T : pm_M) (i : Instr) (st : List Value) (ph : List va_E) : Option (List Value × Nat × va_E) := match i with
  | .putfield idx => pm_pf T idx st ph
  | .iastore => (pm_i1 st).bind fun v => (pm_i1 v.2).bind fun q => (pm_r1 q.2).bind fun w => (pm_ia ph w.1 0).bind fun x => (pm_ix q.1 x.1).bind fun j => some (w.2, w.1, .inl (0, x.1, .inl (upd x.2 j v.1)))
  | .bastore => (pm_i1 st).bind fun v => (pm_i1 v.2).bind fun q => (pm_r1 q.2).bind fun w => (pm_ia ph w.1 1).bind fun x => (pm_ix q.1 x.1).bind fun j => some (w.2, w.1, .inl (1, x.1, .inl (upd x.2 j (vp_nar .boolean v.1))))
  | .lastore => (pm_l1 st).bind fun v => (pm_i1 v.2).bind fun q => (pm_r1 q.2).bind fun w => (pm_la ph w.1 2).bind fun x => (pm_ix q.1 x.1).bind fun j => some (w.2, w.1, .inl (2, x.1, .inr (.inl (vp_updL x.2 j v.1))))
  | .aastore => (pm_r1 st).bind fun v => (pm_i1 v.2).bind fun q => (pm_r1 q.2).bind fun w => (pm_ra ph w.1 3).bind fun x => (pm_ix q.1 x.1).bind fun j => (pm_ob ph v.1 pm_cC).bind fun _ => some (w.2, w.1, .inl (3, x.1, .inr (.inr (.inr (.inr (va_up x.2 j (some v.1)))))))
  | _ => none
/-- new cells: the stack behind (without the new reference), the cell, its slots -/
def pm_nw (T : pm_M) (i : Instr) (st : List Value) : Option (List Value × va_E × Nat) := match i with
  | .new idx => (pm_nr (pm_cn T) idx).bind fun ci => (pm_dfs[ci.1]?).bind fun fs => some (st, .inr (ci.1, fs), fs.length)
  | .newarray .int => (pm_i1 st).bind fun q => if q.1 < 0 ∨ 16777216 < q.1.toNatClampNeg then none else some (q.2, .inl (0, q.1.toNatClampNeg, .inl (fun _ => 0)), q.1.toNatClampNeg)
  | .newarray .boolean => (pm_i1 st).bind fun q => if q.1 < 0 ∨ 16777216 < q.1.toNatClampNeg then none else some (q.2, .inl (1, q.1.toNatClampNeg, .inl (fun _ => 0)), q.1.toNatClampNeg)
  | .newarray .long => (pm_i1 st).bind fun q => if q.1 < 0 ∨ 16777216 < q.1.toNatClampNeg then none else some (q.2, .inl (2, q.1.toNatClampNeg, .inr (.inl (fun _ => 0))), q.1.toNatClampNeg)
  | .anewarray idx => (pm_ar (pm_cn T) idx).bind fun _ => (pm_i1 st).bind fun q => if q.1 < 0 ∨ 16777216 < q.1.toNatClampNeg then none else some (q.2, .inl (3, q.1.toNatClampNeg, .inr (.inr (.inr (.inr (fun _ => none))))), q.1.toNatClampNeg)
  | _ => none
/-! what the tables say -/
theorem pm_own_at {α : Type} {l : List (String × List (Nat × α))} (h : pm_fls.map (fun z => z.1) = l.map (fun z => z.1)) (c : Nat) : (l.getD c ("", [])).1 = pm_ow c := by
  have h1 : (l.map (fun z => z.1))[c]? = (pm_fls.map (fun z => z.1))[c]? := by rw [h]
  rw [List.getElem?_map, List.getElem?_map] at h1
  unfold pm_ow
  rw [List.getD_eq_getElem?_getD, List.getD_eq_getElem?_getD]
  cases ha : l[c]? with
  | none =>
    rw [ha] at h1
    cases hb : pm_fls[c]? with
    | none => rfl
    | some b => rw [hb] at h1; cases h1
  | some a =>
    rw [ha] at h1
    cases hb : pm_fls[c]? with
    | none => rw [hb] at h1; cases h1
    | some b => rw [hb] at h1; exact Option.some.inj h1
theorem pm_all_at {α : Type} {l : List (String × List (Nat × α))} {ck : String → Nat × α → Bool} (h : l.all (fun z => z.2.all (ck z.1)) = true) (ho : pm_fls.map (fun z => z.1) = l.map (fun z => z.1)) {c idx : Nat} {v : α} (hv : pm_as (l.getD c ("", [])).2 idx = some v) : ck (pm_ow c) (idx, v) = true := by
  have hm := pm_as_mem hv
  rcases pm_getD_mem (l := l) (d := ("", [])) (k := c) rfl with h1 | h1
  · rw [h1] at hm; cases hm
  · have h2 := List.all_eq_true.mp (List.all_eq_true.mp h _ h1) _ hm
    rw [pm_own_at ho c] at h2
    exact h2
theorem pm_fr_ok {c idx : Nat} {w : Nat × Nat × Nat × Nat} (h : pm_fr c idx = some w) : pm_fck (pm_ow c) (idx, w) = true := pm_all_at pm_fls_ok rfl h
theorem pm_sr_ok {c idx : Nat} {w : Nat × Nat} (h : pm_sr c idx = some w) : pm_sck (pm_ow c) (idx, w) = true := pm_all_at pm_sls_ok pm_ows_s h
theorem pm_mr_ok {c idx : Nat} {w : Nat × Nat × Nat × Nat × Nat} (h : pm_mr c idx = some w) : pm_mck (pm_ow c) (idx, w) = true := pm_all_at pm_mls_ok pm_ows_ok.1 h
theorem pm_nr_ok {c idx : Nat} {w : Nat × Nat} (h : pm_nr c idx = some w) : pm_nck (pm_ow c) (idx, w) = true := pm_all_at pm_nls_ok pm_ows_ok.2.1 h
theorem pm_ar_ok {c idx : Nat} {w : Nat} (h : pm_ar c idx = some w) : Cond.classLink (pm_ow c) idx "LambdaShelf$Code" ∈ lw_tbl := pm_at_mem (pm_all_at (ck := fun o q => pm_at q.2 (.classLink o q.1 "LambdaShelf$Code")) pm_als_ok pm_ows_ok.2.2.1 h)
set_option maxRecDepth 100000 in
theorem pm_lk_ok {c idx : Nat} {w : Int64 × Nat} (h : pm_lk c idx = some w) : Cond.constantLong (pm_ow c) idx w.1 ∈ lw_tbl := by
  have h1 : pm_at w.2 (.constantLong (pm_ow c) idx w.1) = true := pm_all_at (ck := fun o q => pm_at q.2.2 (.constantLong o q.1 q.2.1)) pm_lls_ok pm_ows_ok.2.2.2 h
  exact pm_at_mem h1
theorem pm_cl_ok {ci : Nat} {r : vw_C} (h : pm_cl[ci]? = some r) : (∀ k, k < r.2.2 → parseFieldDescriptor (r.2.1 k).2.2.1 = some (pm_fty ci k)) ∧ (∀ a, a < r.2.2 → ∀ b, b < r.2.2 → a ≠ b → (r.2.1 a).2.1 ≠ (r.2.1 b).2.1) ∧ (∀ w ∈ u_ws r.1 r.2.1 r.2.2, w ∈ pm_tb) ∧ Cond.instantiable r.1 r.2.2 ∈ pm_tb ∧ Cond.initialized r.1 ∈ pm_tb ∧ ∃ fs, pm_dfs[ci]? = some fs ∧ fs.length = r.2.2 ∧ ∀ j, j < r.2.2 → defaultValue (pm_fty ci j) = vp_V fs j := by
  have hl : ci < pm_cl.length := (List.getElem?_eq_some_iff.mp h).1
  have h1 := List.all_eq_true.mp pm_cck_ok ci (List.mem_range.mpr hl)
  unfold pm_cck at h1
  rw [h] at h1
  cases hf : pm_dfs[ci]? with
  | none => rw [hf] at h1; cases h1
  | some fs =>
    rw [hf] at h1
    simp only [Bool.and_eq_true, decide_eq_true_eq] at h1
    obtain ⟨⟨⟨h2, h3⟩, h4⟩, h5⟩ := h1
    have hk : ∀ k, k < r.2.2 → _ := fun k hk => List.all_eq_true.mp h2 k (List.mem_range.mpr hk)
    simp only [Bool.and_eq_true, decide_eq_true_eq] at hk
    refine ⟨fun k q => (hk k q).1.1.1, fun a ha b hb hab => ?_, fun w hw => ?_, pm_at_good h3 rfl, pm_at_good h4 rfl, fs, rfl, h5, fun j q => (hk j q).1.2⟩
    · have := List.all_eq_true.mp (hk a ha).2 b (List.mem_range.mpr hb)
      simp only [Bool.or_eq_true, decide_eq_true_eq] at this
      rcases this with q | q
      · exact absurd q.symm hab
      · exact q
    · obtain ⟨k, hk1, rfl⟩ := List.mem_map.mp hw
      exact pm_at_good (hk k (List.mem_range.mp hk1)).1.1.2 (by unfold u_lay; split <;> rfl)
/-- the words on nest mates, and on the array of references: they go along with the state -/
def pm_isn (w : Cond) : Bool := match w with
  | .fieldLinkNest .. => true
  | .methodLinkNest .. => true
  | _ => false
def pm_Nn (U : State) : Prop := (∀ w ∈ lw_tbl, pm_isn w = true → va_Nw w U) ∧ va_AO "LambdaShelf$Code" U
theorem pm_Nn.warm {s U : State} (hW : s.WarmedH U.vm) (h : pm_Nn s) : pm_Nn U := by
  refine ⟨fun w hw hn => ?_, h.2.moved hW.alike⟩
  have h1 := h.1 w hw hn
  cases w with
  | fieldLinkNest a b c d e f => exact h1.warmF hW
  | methodLinkNest a b c d => exact h1.warmM hW
  | _ => cases hn
theorem pm_Nn.same {u U : State} (hvm : u.vm = U.vm) (h : pm_Nn u) : pm_Nn U := by
  refine ⟨fun w hw hn => ?_, h.2.moved (by rw [hvm]; exact Vm.Alike.refl _)⟩
  have h1 := h.1 w hw hn
  cases w with
  | fieldLinkNest a b c d e f => exact h1.same rfl hvm
  | methodLinkNest a b c d => exact h1.same rfl hvm
  | _ => cases hn
theorem pm_fr_facts {c idx ci k nd ps : Nat} (h : pm_fr c idx = some (ci, k, nd, ps)) : ∃ (C : String) (F : u_T) (N : Nat), pm_cl[ci]? = some (C, F, N) ∧ k < N ∧ (F k).1 = C ∧
    ((nd = 0 ∧ (F k).2.2.2 = false ∧ Cond.fieldLink (pm_ow c) idx C (F k).2.1 (F k).2.2.1 ∈ pm_tb) ∨ (nd = 1 ∧ (F k).2.2.2 = false ∧ Cond.fieldLinkNest (pm_ow c) idx C (F k).2.1 (F k).2.2.1 "LambdaShelf" ∈ lw_tbl)
     ∨ (nd = 2 ∧ (F k).2.2.2 = true ∧ Cond.fieldLink (pm_ow c) idx C (F k).2.1 (F k).2.2.1 ∈ pm_tb) ∨ (nd = 3 ∧ Cond.fieldLinkNest (pm_ow c) idx C (F k).2.1 (F k).2.2.1 "LambdaShelf" ∈ lw_tbl)) := by
  have hck := pm_fr_ok h
  unfold pm_fck at hck
  dsimp only at hck
  cases hcl : pm_cl[ci]? with
  | none => rw [hcl] at hck; cases hck
  | some r =>
    obtain ⟨C, F, N⟩ := r
    rw [hcl] at hck
    dsimp only at hck
    simp only [Bool.and_eq_true, decide_eq_true_eq] at hck
    obtain ⟨⟨h1, h2⟩, h3⟩ := hck
    refine ⟨C, F, N, rfl, h1, h2, ?_⟩
    match nd, h3 with
    | 0, h3 =>
      simp only [Bool.and_eq_true, decide_eq_true_eq] at h3
      exact Or.inl ⟨rfl, h3.1, pm_at_good h3.2 rfl⟩
    | 1, h3 =>
      simp only [Bool.and_eq_true, decide_eq_true_eq] at h3
      exact Or.inr (Or.inl ⟨rfl, h3.1, pm_at_mem h3.2⟩)
    | 2, h3 =>
      simp only [Bool.and_eq_true, decide_eq_true_eq] at h3
      exact Or.inr (Or.inr (Or.inl ⟨rfl, h3.1, pm_at_good h3.2 rfl⟩))
    | 3, h3 =>
      simp only [Bool.and_eq_true, decide_eq_true_eq] at h3
      exact Or.inr (Or.inr (Or.inr ⟨rfl, pm_at_mem h3.2⟩))
    | n + 4, h3 => cases h3
section PMHP
variable {p : Program} {l : Launch} {e : Env} {R : Room} {s : State} {m : MethodId} {args : Array Value} {below : List Frame} {meth : Method} {c : Code} {H : Heap} {locs : List Loc} {cells slots : Nat} {Q : State → Prop}
variable {cc : ByteArray} {pc nL : Nat} {ls : Array Slot} {bS : Nat → Nat} {ad : List Nat} {D : va_G} {A : Nat → Prop} {H0 : Heap} {ws : va_W} {ph : List va_E} {T : pm_M}
theorem pm_alen_ok (hx : p.tables.exec = Jvm.exec) (hb : c.code = cc) (hK : va_K D pm_cl [] s) (hP : va_P D pm_cl ws H) {k a n : Nat} {e0 e' : va_E} {r' : List Value} (h0 : pm_aln ph k = some n) (hk : ph[k]? = some e0) (he : ws[k]? = some (a, e')) (hc : pm_rc bS ad s e0 e') (hd : decode cc pc = .ok (.arraylength, 1))
    (kk : W p l e R s m args below meth c H locs cells slots Q (F0 m (pc + 1) ls (.int (Int32.ofNat n) :: r'))) : W p l e R s m args below meth c H locs cells slots Q (F0 m pc ls (.ref a :: r')) := by
  unfold pm_aln at h0
  rw [hk] at h0
  split at h0
  · rename_i t n1 f heq
    cases heq
    cases h0
    obtain ⟨cA, rfl, h1, h2⟩ := hc
    exact va_alen hx hb (pm_K1 hK h1 h2) hP k 0 he rfl rfl hd kk
  · rename_i t n1 f heq
    cases heq
    cases h0
    obtain ⟨cA, rfl, h1, h2⟩ := hc
    exact va_alen hx hb (pm_K1 hK h1 h2) hP k 0 he rfl rfl hd kk
  · rename_i t n1 f heq
    cases heq
    cases h0
    obtain ⟨cA, g, rfl, -, h1, h2⟩ := hc
    exact va_alen hx hb (pm_K1 hK h1 h2) hP k 0 he rfl rfl hd kk
  · cases h0
theorem pm_rd_ok (hx : p.tables.exec = Jvm.exec) (hb : c.code = cc) (hown : s.vm.findClass (pm_ow (pm_cn T)) = some m.cls) (hts : ∀ w ∈ pm_tb, w.before args s = true) (hN : pm_Nn s) (hK : va_K D pm_cl [] s) (hP : va_P D pm_cl ws H) (hS : va_S A H0 H locs) (hw : pm_rw bS ad s ph ws)
    {scr : Option (Nat × (Nat → Int32))} (hX : ∀ x, scr = some x → va_X (bS 0) x.1 x.2 s H0 ∧ bS 0 < H0.size ∧ ¬ A (bS 0)) (hZ : pm_Z bS A s H0 ∧ H0 = s.heap) {i : Instr} {st st2 stA : List Value} (h : pm_rd T scr i st ph = some st2) (hd : decode cc pc = .ok (i, pm_len i)) (hs : pm_rs bS ad st stA)
    (kk : ∀ stA2 : List Value, pm_rs bS ad st2 stA2 → W p l e R s m args below meth c H locs cells slots Q (F0 m (pc + pm_len i) ls stA2)) : W p l e R s m args below meth c H locs cells slots Q (F0 m pc ls stA) := by
  cases i
  case getfield idx =>
    replace h : (match pm_s2 st with
      | some q => (pm_sr (pm_cn T) idx).bind fun w => if (q.1 = 0 ∨ q.1 = 2) ∧ w.1 = 0 then some (.retAddr (q.1 + 2) :: q.2) else if (q.1 = 0 ∨ q.1 = 2) ∧ w.1 = 1 then some (.int 0 :: q.2) else none
      | none => (pm_r1 st).bind fun q => (pm_fr (pm_cn T) idx).bind fun w => (pm_ob ph q.1 w.1).bind fun fs => (fs[w.2.1]?).bind fun v => some (v :: q.2)) = some st2 := h
    split at h
    · rename_i q hq
      obtain ⟨k, r⟩ := q
      obtain ⟨⟨w, ps⟩, h1, h⟩ := Option.bind_eq_some_iff.mp h
      have hck := pm_sr_ok h1
      obtain rfl := pm_s2_ok hq
      have hz : k = 0 ∨ k = 2 → pm_Zs bS (k + 1) A s s.heap := fun q => by
        have h0 := hZ.1
        rw [hZ.2] at h0
        rcases q with rfl | rfl
        · exact h0.2.1
        · exact h0.2.2.1
      have hS' : va_S A s.heap H locs := by rw [← hZ.2]; exact hS
      dsimp only at h
      split at h
      · rename_i hc
        cases h
        obtain ⟨hk, rfl⟩ := hc
        obtain ⟨r3, rfl, hr3⟩ := pm_rs_s (by omega) hs
        replace hck : pm_at ps (.fieldLink (pm_ow (pm_cn T)) idx "java/lang/String" "value" "[B") = true := hck
        exact vk_getf hx hb (hz hk).2.2.1 hS' hown (hts _ (pm_at_good hck rfl)) (fun _ q => q) hd (kk _ ⟨Or.inl rfl, hr3⟩)
      · split at h
        · rename_i hc
          cases h
          obtain ⟨hk, rfl⟩ := hc
          obtain ⟨r3, rfl, hr3⟩ := pm_rs_s (by omega) hs
          replace hck : pm_at ps (.fieldLink (pm_ow (pm_cn T)) idx "java/lang/String" "coder" "B") = true := hck
          exact vk_getf hx hb (hz hk).2.1 hS' hown (hts _ (pm_at_good hck rfl)) (fun _ q => q) hd (kk _ ⟨rfl, hr3⟩)
        · cases h
    obtain ⟨⟨a, r⟩, h1, h⟩ := Option.bind_eq_some_iff.mp h
    obtain ⟨⟨ci, k, nd, ps⟩, h2, h⟩ := Option.bind_eq_some_iff.mp h
    obtain ⟨fs, h3, h⟩ := Option.bind_eq_some_iff.mp h
    obtain ⟨v, h4, h⟩ := Option.bind_eq_some_iff.mp h
    cases h
    obtain rfl := pm_r1_ok h1
    obtain ⟨a', r', ha, rfl, hr⟩ := pm_rs_r hs
    obtain ⟨e', he, hc⟩ := hw.at (pm_ob_ok h3) ha
    obtain ⟨fs', rfl, hf⟩ := hc
    obtain ⟨w, hw1, hw2⟩ := pm_rs_get hf h4
    obtain ⟨C, F, N, hcl, hk, hdecl, hq⟩ := pm_fr_facts h2
    have hin := (pm_cl_ok hcl).2.2.1
    have hsame : ∀ x, s.fieldFound? (F k).1 (F k).2.1 (F k).2.2.1 = some x → s.fieldFound? C (F k).2.1 (F k).2.2.1 = some x := fun x q => by rw [hdecl] at q; exact q
    have k1 := kk (w :: r') ⟨hw2, hr⟩
    rcases hq with ⟨-, -, q⟩ | ⟨-, -, q⟩ | ⟨-, -, q⟩ | ⟨-, q⟩
    · exact va_get hx hb hts hin hown hK hP a he hcl k hk (hts _ q) hsame hw1 hd k1
    · exact va_getN hx hb hts hin hown hK hP a he hcl k hk ((hN.1 _ q rfl).use rfl) hsame hw1 hd k1
    · exact va_get hx hb hts hin hown hK hP a he hcl k hk (hts _ q) hsame hw1 hd k1
    · exact va_getN hx hb hts hin hown hK hP a he hcl k hk ((hN.1 _ q rfl).use rfl) hsame hw1 hd k1
  case iaload =>
    obtain ⟨⟨i, r⟩, h1, h9⟩ := Option.bind_eq_some_iff.mp h
    clear h
    obtain rfl := pm_i1_ok h1
    obtain ⟨r1, rfl, hr⟩ := pm_rs_i hs
    dsimp only at h9
    split at h9
    · rename_i r2 hr2
      obtain ⟨x, hscr, h8⟩ := Option.bind_eq_some_iff.mp h9
      obtain ⟨j, h3, h7⟩ := Option.bind_eq_some_iff.mp h8
      cases h7
      obtain rfl := pm_s1_ok hr2
      obtain ⟨r3, rfl, hr3⟩ := pm_rs_s (by omega) hr
      obtain ⟨hin, rfl⟩ := pm_ix_ok h3
      obtain ⟨hX1, hX2, hX3⟩ := hX x hscr
      exact va_sld hx hb hX1 hX2 hX3 hS hin hd (kk _ ⟨rfl, hr3⟩)
    · obtain ⟨⟨a, r2⟩, h2, h9⟩ := Option.bind_eq_some_iff.mp h9
      obtain ⟨⟨n, f⟩, h3, h9⟩ := Option.bind_eq_some_iff.mp h9
      obtain ⟨j, h4, h9⟩ := Option.bind_eq_some_iff.mp h9
      cases h9
      obtain rfl := pm_r1_ok h2
      obtain ⟨a', r', ha, rfl, hr'⟩ := pm_rs_r hr
      obtain ⟨hin, rfl⟩ := pm_ix_ok h4
      obtain ⟨e', he, hc⟩ := hw.at (pm_ia_ok h3) ha
      obtain ⟨cA, rfl, q1, q2⟩ := hc
      exact va_iald hx hb (pm_K1 hK q1 q2) hP a 0 he rfl hin hd (kk _ ⟨rfl, hr'⟩)
  case baload =>
    obtain ⟨⟨i, r⟩, h1, h9⟩ := Option.bind_eq_some_iff.mp h
    clear h
    obtain rfl := pm_i1_ok h1
    obtain ⟨r1, rfl, hr⟩ := pm_rs_i hs
    dsimp only at h9
    split at h9
    · rename_i z hz2
      obtain ⟨k, r2⟩ := z
      dsimp only at h9
      split at h9
      · rename_i hk
        obtain ⟨j, h3, h7⟩ := Option.bind_eq_some_iff.mp h9
        cases h7
        obtain rfl := pm_s2_ok hz2
        obtain ⟨r3, rfl, hr3⟩ := pm_rs_s (by omega) hr
        obtain ⟨hin, rfl⟩ := pm_ix_ok h3
        have hS' : va_S A s.heap H locs := by rw [← hZ.2]; exact hS
        have hz : va_T .byte (bS (k + 1)) 5 (fun j => .int (pm_b5 j)) A s s.heap := by
          have h0 := hZ.1
          rw [hZ.2] at h0
          rcases hk with rfl | rfl
          · exact h0.2.1.2.2.2
          · exact h0.2.2.1.2.2.2
        exact va_tb hx hb hz hS' hin rfl hd (kk _ ⟨rfl, hr3⟩)
      · cases h9
    · obtain ⟨⟨a, r2⟩, h2, h9⟩ := Option.bind_eq_some_iff.mp h9
      obtain ⟨⟨n, f⟩, h3, h9⟩ := Option.bind_eq_some_iff.mp h9
      obtain ⟨j, h4, h9⟩ := Option.bind_eq_some_iff.mp h9
      cases h9
      obtain rfl := pm_r1_ok h2
      obtain ⟨a', r', ha, rfl, hr'⟩ := pm_rs_r hr
      obtain ⟨hin, rfl⟩ := pm_ix_ok h4
      obtain ⟨e', he, hc⟩ := hw.at (pm_ia_ok h3) ha
      obtain ⟨cA, rfl, q1, q2⟩ := hc
      exact va_zald hx hb (pm_K1 hK q1 q2) hP a 0 he rfl hin hd (kk _ ⟨rfl, hr'⟩)
  case laload =>
    obtain ⟨⟨i, r⟩, h1, h⟩ := Option.bind_eq_some_iff.mp h
    obtain ⟨⟨a, r2⟩, h2, h⟩ := Option.bind_eq_some_iff.mp h
    obtain ⟨⟨n, f⟩, h3, h⟩ := Option.bind_eq_some_iff.mp h
    obtain ⟨j, h4, h⟩ := Option.bind_eq_some_iff.mp h
    cases h
    obtain rfl := pm_i1_ok h1
    obtain ⟨r1, rfl, hr⟩ := pm_rs_i hs
    obtain rfl := pm_r1_ok h2
    obtain ⟨a', r', ha, rfl, hr'⟩ := pm_rs_r hr
    obtain ⟨hin, rfl⟩ := pm_ix_ok h4
    obtain ⟨e', he, hc⟩ := hw.at (pm_la_ok h3) ha
    obtain ⟨cA, rfl, q1, q2⟩ := hc
    exact va_lald hx hb (pm_K1 hK q1 q2) hP a 0 he rfl hin hd (kk _ ⟨rfl, hr'⟩)
  case aaload =>
    obtain ⟨⟨i, r⟩, h1, h⟩ := Option.bind_eq_some_iff.mp h
    obtain ⟨⟨a, r2⟩, h2, h⟩ := Option.bind_eq_some_iff.mp h
    obtain ⟨⟨n, f⟩, h3, h⟩ := Option.bind_eq_some_iff.mp h
    obtain ⟨j, h4, h⟩ := Option.bind_eq_some_iff.mp h
    cases h
    obtain rfl := pm_i1_ok h1
    obtain ⟨r1, rfl, hr⟩ := pm_rs_i hs
    obtain rfl := pm_r1_ok h2
    obtain ⟨a', r', ha, rfl, hr'⟩ := pm_rs_r hr
    obtain ⟨hin, rfl⟩ := pm_ix_ok h4
    obtain ⟨e', he, hc⟩ := hw.at (pm_ra_ok h3) ha
    obtain ⟨cA, g, rfl, hg, q1, q2⟩ := hc
    have hv : pm_rv bS ad (pm_vo (f i.toNatClampNeg)) (va_rf (g i.toNatClampNeg)) := by
      have h9 := hg i.toNatClampNeg
      cases hf : f i.toNatClampNeg with
      | none => rw [hf] at h9; rw [show g i.toNatClampNeg = none from h9]; rfl
      | some k => rw [hf] at h9; obtain ⟨a9, h91, h92⟩ := h9; rw [h92]; exact ⟨a9, h91, rfl⟩
    exact va_aldq hx hb (pm_K1 hK q1 q2) hP a 0 he rfl hin hd (kk _ ⟨hv, hr'⟩)
  case arraylength =>
    replace h : (match pm_s1 st with
      | some r => scr.bind fun x => some (.int (Int32.ofNat x.1) :: r)
      | none => match pm_s2 st with
        | some z => if z.1 = 1 ∨ z.1 = 3 then some (.int 5 :: z.2) else none
        | none => (pm_r1 st).bind fun w => (pm_aln ph w.1).bind fun n => some (.int (Int32.ofNat n) :: w.2)) = some st2 := h
    split at h
    · rename_i r2 hr2
      obtain ⟨x, rfl, h⟩ := Option.bind_eq_some_iff.mp h
      cases h
      obtain rfl := pm_s1_ok hr2
      obtain ⟨r3, rfl, hr3⟩ := pm_rs_s (by omega) hs
      obtain ⟨hX1, hX2, hX3⟩ := hX x rfl
      exact va_slen hx hb hX1 hX2 hX3 hS hd (kk _ ⟨rfl, hr3⟩)
    split at h
    · rename_i z hz2
      obtain ⟨k, r2⟩ := z
      dsimp only at h
      split at h
      · rename_i hk
        cases h
        obtain rfl := pm_s2_ok hz2
        obtain ⟨r3, rfl, hr3⟩ := pm_rs_s (by omega) hs
        have hS' : va_S A s.heap H locs := by rw [← hZ.2]; exact hS
        have hz : va_T .byte (bS (k + 1)) 5 (fun j => .int (pm_b5 j)) A s s.heap := by
          have h0 := hZ.1
          rw [hZ.2] at h0
          rcases hk with rfl | rfl
          · exact h0.2.1.2.2.2
          · exact h0.2.2.1.2.2.2
        exact va_tlen hx hb hz hS' rfl hd (kk _ ⟨rfl, hr3⟩)
      · cases h
    · obtain ⟨⟨a, r2⟩, h2, h⟩ := Option.bind_eq_some_iff.mp h
      obtain ⟨n, h3, h⟩ := Option.bind_eq_some_iff.mp h
      cases h
      obtain rfl := pm_r1_ok h2
      obtain ⟨a', r', ha, rfl, hr'⟩ := pm_rs_r hs
      cases h0 : ph[a]? with
      | none =>
        replace h3 : pm_aln ph a = some n := h3
        unfold pm_aln at h3
        rw [h0] at h3
        cases h3
      | some e0 =>
        obtain ⟨e', he, hc⟩ := hw.at h0 ha
        exact pm_alen_ok hx hb hK hP h3 h0 he hc hd (kk _ ⟨rfl, hr'⟩)
  case getstatic idx =>
    obtain ⟨⟨w, ps⟩, h1, h⟩ := Option.bind_eq_some_iff.mp h
    have hck := pm_sr_ok h1
    have hS' : va_S A s.heap H locs := by rw [← hZ.2]; exact hS
    have h0 := hZ.1
    rw [hZ.2] at h0
    dsimp only at h
    split at h
    · rename_i hc
      cases h
      subst hc
      replace hck : pm_at ps (.fieldLink (pm_ow (pm_cn T)) idx "java/lang/String" "COMPACT_STRINGS" "Z") = true := hck
      exact va_gets hx hb h0.2.2.2.1 hS' hown (hts _ (pm_at_good hck rfl)) (fun _ q => q) hd (kk _ ⟨rfl, hs⟩)
    · split at h
      · rename_i hc
        cases h
        subst hc
        replace hck : pm_at ps (.fieldLink (pm_ow (pm_cn T)) idx "jdk/internal/util/Preconditions" "SIOOBE_FORMATTER" "Ljava/util/function/BiFunction;") = true := hck
        rcases h0.2.2.2.2 with h9 | h9
        · exact va_gets hx hb h9 hS' hown (hts _ (pm_at_good hck rfl)) (fun _ q => q) hd (kk _ ⟨Or.inl rfl, hs⟩)
        · exact va_gets hx hb h9 hS' hown (hts _ (pm_at_good hck rfl)) (fun _ q => q) hd (kk _ ⟨Or.inr ⟨rfl, rfl⟩, hs⟩)
      · cases h
  case ldc idx =>
    obtain ⟨⟨w, ps⟩, h1, h⟩ := Option.bind_eq_some_iff.mp h
    have hck := pm_sr_ok h1
    dsimp only at h
    split at h
    · rename_i hc
      cases h
      subst hc
      replace hck : (decide (pm_ow (pm_cn T) = "LambdaShelf$Reader") && decide (idx = pm_iR)) = true := hck
      simp only [Bool.and_eq_true, decide_eq_true_eq] at hck
      obtain ⟨ho, rfl⟩ := hck
      rw [ho] at hown
      exact va_ldcS hx hb hown hZ.1.1.1 hd (kk _ ⟨Or.inl rfl, hs⟩)
    · split at h
      · rename_i hc
        cases h
        subst hc
        replace hck : (decide (pm_ow (pm_cn T) = "LambdaShelf$Teller") && decide (idx = pm_iT)) = true := hck
        simp only [Bool.and_eq_true, decide_eq_true_eq] at hck
        obtain ⟨ho, rfl⟩ := hck
        rw [ho] at hown
        exact va_ldcS hx hb hown hZ.1.1.2 hd (kk _ ⟨Or.inl rfl, hs⟩)
      · cases h
  case ldc2_w idx =>
    obtain ⟨v, h1, h⟩ := Option.bind_eq_some_iff.mp h
    cases h
    exact lv_ldc2 hx hb hown (hts _ (List.mem_filter.mpr ⟨pm_lk_ok h1, rfl⟩)) hd (kk _ ⟨rfl, hs⟩)
  all_goals exact nomatch (show (none : Option (List Value)) = some st2 from h)
end PMHP
