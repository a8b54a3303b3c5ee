/-! LOCALS THAT ARE NO LONGER READ MAY STAND THERE -/
def pm_ks (l : pm_L) : List Nat := l.map (fun q => q.1)
theorem pm_get_no {k : Nat} : ∀ {l : pm_L}, k ∉ pm_ks l → pm_get l k = none
  | [], _ => rfl
  | q :: r, h => by
    unfold pm_get
    rw [if_neg (fun e => h (by rw [← e]; exact List.mem_cons_self))]
    exact pm_get_no (fun z => h (List.mem_cons_of_mem _ z))
theorem pm_ks_filter {P : Nat × Value → Bool} {k : Nat} : ∀ {l : pm_L}, k ∈ pm_ks (l.filter P) → k ∈ pm_ks l := by
  intro l h
  obtain ⟨q, h1, h2⟩ := List.mem_map.mp h
  exact List.mem_map.mpr ⟨q, (List.mem_filter.mp h1).1, h2⟩
theorem pm_get_filter {P : Nat × Value → Bool} {k : Nat} {w : Value} : ∀ {l : pm_L}, (pm_ks l).Nodup → (pm_get (l.filter P) k = some w ↔ pm_get l k = some w ∧ P (k, w) = true)
  | [], _ => ⟨fun h => (by cases h), fun h => (by cases h.1)⟩
  | q :: r, hn => by
    obtain ⟨h1, h2⟩ := List.nodup_cons.mp (show (q.1 :: pm_ks r).Nodup from hn)
    have ih := pm_get_filter (P := P) (k := k) (w := w) h2
    rw [List.filter_cons]
    by_cases hk : q.1 = k
    · have e0 : pm_get (q :: r) k = some q.2 := by unfold pm_get; rw [if_pos hk]
      rw [e0]
      split
      · rename_i hp
        have e1 : pm_get (q :: r.filter P) k = some q.2 := by unfold pm_get; rw [if_pos hk]
        rw [e1]
        refine ⟨fun h => ⟨h, ?_⟩, fun h => h.1⟩
        rw [← hk, ← Option.some.inj h]; exact hp
      · rename_i hp
        rw [pm_get_no (fun z => h1 (by rw [hk]; exact pm_ks_filter z))]
        refine ⟨fun h => (by cases h), fun h => ?_⟩
        exfalso
        apply hp
        have := h.2
        rw [← hk, ← Option.some.inj h.1] at this
        exact this
    · have e0 : pm_get (q :: r) k = pm_get r k := by show (if q.1 = k then some q.2 else pm_get r k) = _; rw [if_neg hk]
      rw [e0, ← ih]
      split
      · have e1 : pm_get (q :: r.filter P) k = pm_get (r.filter P) k := by show (if q.1 = k then some q.2 else pm_get (r.filter P) k) = _; rw [if_neg hk]
        rw [e1]
      · exact Iff.rfl
theorem pm_ins_ks {i : Nat} {v : Value} : ∀ {l : pm_L} {k : Nat}, k ∈ pm_ks (pm_ins i v l) → k = i ∨ k ∈ pm_ks l := by
  intro l k h
  obtain ⟨q, h1, h2⟩ := List.mem_map.mp h
  rcases List.mem_cons.mp (pm_ins_mem h1) with e | e
  · left; rw [← h2, e]
  · right; exact List.mem_map.mpr ⟨q, e, h2⟩
theorem pm_ins_nd {i : Nat} {v : Value} : ∀ {l : pm_L}, i ∉ pm_ks l → (pm_ks l).Nodup → (pm_ks (pm_ins i v l)).Nodup
  | [], _, _ => by simp [pm_ins, pm_ks]
  | q :: r, hi, hn => by
    obtain ⟨h1, h2⟩ := List.nodup_cons.mp (show (q.1 :: pm_ks r).Nodup from hn)
    unfold pm_ins
    split
    · exact List.nodup_cons.mpr ⟨hi, hn⟩
    · refine List.nodup_cons.mpr ⟨fun z => ?_, pm_ins_nd (fun z => hi (List.mem_cons_of_mem _ z)) h2⟩
      rcases pm_ins_ks z with e | e
      · exact hi (by rw [← e]; exact List.mem_cons_self)
      · exact h1 e
theorem pm_ins_get {i : Nat} {v : Value} {k : Nat} : ∀ {l : pm_L}, i ∉ pm_ks l → pm_get (pm_ins i v l) k = if k = i then some v else pm_get l k
  | [], _ => by
    unfold pm_ins pm_get
    by_cases h : k = i
    · rw [if_pos h, if_pos h.symm]
    · rw [if_neg h, if_neg (fun z => h z.symm)]; rfl
  | q :: r, hi => by
    have hq : q.1 ≠ i := fun z => hi (by rw [← z]; exact List.mem_cons_self)
    have ih := pm_ins_get (v := v) (k := k) (l := r) (fun z => hi (List.mem_cons_of_mem _ z))
    unfold pm_ins
    split
    · show (if i = k then some v else pm_get (q :: r) k) = _
      by_cases h : k = i
      · rw [if_pos h, if_pos h.symm]
      · rw [if_neg h, if_neg (fun z => h z.symm)]
    · show (if q.1 = k then some q.2 else pm_get (pm_ins i v r) k) = _
      rw [ih]
      show _ = if k = i then some v else (if q.1 = k then some q.2 else pm_get r k)
      by_cases h : k = i
      · rw [if_pos h, if_pos h, if_neg (by omega)]
      · rw [if_neg h, if_neg h]
def pm_sub (l l' : pm_L) : Prop := (pm_ks l).Nodup ∧ (pm_ks l').Nodup ∧ ∀ i v, pm_get l i = some v → pm_get l' i = some v
theorem pm_flt_nd {P : Nat × Value → Bool} {l : pm_L} (h : (pm_ks l).Nodup) : (pm_ks (l.filter P)).Nodup := by
  unfold pm_ks at *
  exact List.Nodup.sublist (List.Sublist.map _ List.filter_sublist) h
theorem pm_sub_ins {P : Nat × Value → Bool} {i : Nat} {v : Value} {l l' : pm_L} (hP : ∀ q : Nat × Value, q.1 = i → P q = false) (h : pm_sub l l') : pm_sub (pm_ins i v (l.filter P)) (pm_ins i v (l'.filter P)) := by
  have hn : ∀ l : pm_L, i ∉ pm_ks (l.filter P) := fun l z => by
    obtain ⟨q, h1, h2⟩ := List.mem_map.mp z
    have := (List.mem_filter.mp h1).2
    rw [hP q h2] at this
    cases this
  refine ⟨pm_ins_nd (hn l) (pm_flt_nd h.1), pm_ins_nd (hn l') (pm_flt_nd h.2.1), fun k w hk => ?_⟩
  rw [pm_ins_get (hn l)] at hk
  rw [pm_ins_get (hn l')]
  split
  · rename_i e; rw [if_pos e] at hk; exact hk
  · rename_i e
    rw [if_neg e] at hk
    obtain ⟨h1, h2⟩ := (pm_get_filter h.1).mp hk
    exact (pm_get_filter h.2.1).mpr ⟨h.2.2 k w h1, h2⟩
theorem pm_sub_set {i : Nat} {v : Value} {l l' : pm_L} (h : pm_sub l l') : pm_sub (pm_set l i v) (pm_set l' i v) := pm_sub_ins (fun q hq => by simp [hq]) h
theorem pm_sub_set2 {i : Nat} {v : Value} {l l' : pm_L} (h : pm_sub l l') : pm_sub (pm_set2 l i v) (pm_set2 l' i v) := pm_sub_ins (fun q hq => by simp [hq]) h
theorem pm_sim_sub {nL : Nat} {i : Instr} {l l' l2 : pm_L} {st st2 : List Value} (hs : pm_sub l l') (h : pm_sim nL i l st = some (l2, st2)) : ∃ l2', pm_sim nL i l' st = some (l2', st2) ∧ pm_sub l2 l2' := by
  have gi : ∀ k, pm_ldi l k st = some (l2, st2) → ∃ l2', pm_ldi l' k st = some (l2', st2) ∧ pm_sub l2 l2' := fun k q => by
    obtain ⟨x, a, b, c⟩ := pm_ldi_ok q
    subst b; subst c
    exact ⟨l', by unfold pm_ldi; rw [hs.2.2 _ _ a], hs⟩
  have gl : ∀ k, pm_ldl l k st = some (l2, st2) → ∃ l2', pm_ldl l' k st = some (l2', st2) ∧ pm_sub l2 l2' := fun k q => by
    obtain ⟨x, a, b, c⟩ := pm_ldl_ok q
    subst b; subst c
    exact ⟨l', by unfold pm_ldl; rw [hs.2.2 _ _ a], hs⟩
  have ga : ∀ k, pm_lda l k st = some (l2, st2) → ∃ l2', pm_lda l' k st = some (l2', st2) ∧ pm_sub l2 l2' := fun k q => by
    obtain ⟨x, a, b, c, e⟩ := pm_lda_ok q
    subst b; subst c
    refine ⟨l', ?_, hs⟩
    unfold pm_lda
    rw [hs.2.2 _ _ a]
    rcases e with ⟨y, rfl⟩ | rfl | ⟨y, rfl⟩ <;> rfl
  have si : ∀ k, pm_sti nL l k st = some (l2, st2) → ∃ l2', pm_sti nL l' k st = some (l2', st2) ∧ pm_sub l2 l2' := fun k q => by
    obtain ⟨x, r, a, b, c, e⟩ := pm_sti_ok q
    subst a; subst c; subst e
    exact ⟨_, by unfold pm_sti; dsimp only; rw [if_pos b], pm_sub_set hs⟩
  have sl : ∀ k, pm_stl nL l k st = some (l2, st2) → ∃ l2', pm_stl nL l' k st = some (l2', st2) ∧ pm_sub l2 l2' := fun k q => by
    obtain ⟨x, r, a, b, c, e⟩ := pm_stl_ok q
    subst a; subst c; subst e
    exact ⟨_, by unfold pm_stl; dsimp only; rw [if_pos b], pm_sub_set2 hs⟩
  have sa : ∀ k, pm_sta nL l k st = some (l2, st2) → ∃ l2', pm_sta nL l' k st = some (l2', st2) ∧ pm_sub l2 l2' := fun k q => by
    obtain ⟨v, r, a, b, c, e, y⟩ := pm_sta_ok q
    subst a; subst c; subst e
    rcases y with ⟨x, rfl⟩ | rfl
    · exact ⟨_, by unfold pm_sta; dsimp only; rw [if_pos b], pm_sub_set hs⟩
    · exact ⟨_, by unfold pm_sta; dsimp only; rw [if_pos b], pm_sub_set hs⟩
  have bi : ∀ f, pm_bi f l st = some (l2, st2) → ∃ l2', pm_bi f l' st = some (l2', st2) ∧ pm_sub l2 l2' := fun f q => by
    obtain ⟨x, y, r, a, b, c⟩ := pm_bi_ok q
    subst a; subst b; subst c
    exact ⟨l', rfl, hs⟩
  have bd : ∀ f, pm_bd f l st = some (l2, st2) → ∃ l2', pm_bd f l' st = some (l2', st2) ∧ pm_sub l2 l2' := fun f q => by
    obtain ⟨x, y, r, a, z, b, c⟩ := pm_bd_ok q
    subst a; subst b; subst c
    exact ⟨l', by unfold pm_bd; dsimp only; rw [if_neg z], hs⟩
  have ui : ∀ f, pm_ui f l st = some (l2, st2) → ∃ l2', pm_ui f l' st = some (l2', st2) ∧ pm_sub l2 l2' := fun f q => by
    obtain ⟨x, r, a, b, c⟩ := pm_ui_ok q
    subst a; subst b; subst c
    exact ⟨l', rfl, hs⟩
  have ul : ∀ f, pm_ul f l st = some (l2, st2) → ∃ l2', pm_ul f l' st = some (l2', st2) ∧ pm_sub l2 l2' := fun f q => by
    obtain ⟨x, r, a, b, c⟩ := pm_ul_ok q
    subst a; subst b; subst c
    exact ⟨l', rfl, hs⟩
  have bl : ∀ f, pm_bl f l st = some (l2, st2) → ∃ l2', pm_bl f l' st = some (l2', st2) ∧ pm_sub l2 l2' := fun f q => by
    obtain ⟨x, y, r, a, b, c⟩ := pm_bl_ok q
    subst a; subst b; subst c
    exact ⟨l', rfl, hs⟩
  cases i
  case iconst n => cases h; exact ⟨l', rfl, hs⟩
  case bipush n => cases h; exact ⟨l', rfl, hs⟩
  case sipush n => cases h; exact ⟨l', rfl, hs⟩
  case lconst n => cases h; exact ⟨l', rfl, hs⟩
  case aconst_null => cases h; exact ⟨l', rfl, hs⟩
  case iload_n k => exact gi _ h
  case iload k => exact gi _ h
  case lload_n k => exact gl _ h
  case lload k => exact gl _ h
  case aload_n k => exact ga _ h
  case aload k => exact ga _ h
  case istore_n k => exact si _ h
  case istore k => exact si _ h
  case lstore_n k => exact sl _ h
  case lstore k => exact sl _ h
  case astore_n k => exact sa _ h
  case astore k => exact sa _ h
  case iinc k n =>
    obtain ⟨x, a, b, c, e⟩ := pm_inc_ok h
    subst c; subst e
    exact ⟨_, by show pm_inc nL l' k n st2 = _; unfold pm_inc; rw [hs.2.2 _ _ a]; dsimp only; rw [if_pos b], pm_sub_set hs⟩
  case iadd => exact bi _ h
  case isub => exact bi _ h
  case imul => exact bi _ h
  case iand => exact bi _ h
  case ior => exact bi _ h
  case ishl => exact bi _ h
  case ishr => exact bi _ h
  case iushr => exact bi _ h
  case idiv => exact bd _ h
  case irem => exact bd _ h
  case ineg => exact ui _ h
  case i2l => exact ui _ h
  case i2c => exact ui _ h
  case i2b => exact ui _ h
  case l2i => exact ul _ h
  case ladd => exact bl _ h
  case lsub => exact bl _ h
  case lmul => exact bl _ h
  case lcmp => exact bl _ h
  case dup =>
    replace h : pm_dup l st = some (l2, st2) := h
    show ∃ l2', pm_dup l' st = some (l2', st2) ∧ pm_sub l2 l2'
    unfold pm_dup at h ⊢
    split at h
    · split at h
      · rename_i hc; cases h; exact ⟨l', by rw [if_pos hc], hs⟩
      · cases h
    · cases h
  case pop =>
    replace h : pm_pop l st = some (l2, st2) := h
    show ∃ l2', pm_pop l' st = some (l2', st2) ∧ pm_sub l2 l2'
    unfold pm_pop at h ⊢
    split at h
    · split at h
      · rename_i hc; cases h; exact ⟨l', by rw [if_pos hc], hs⟩
      · cases h
    · cases h
  case dup_x1 =>
    replace h : pm_dx1 l st = some (l2, st2) := h
    show ∃ l2', pm_dx1 l' st = some (l2', st2) ∧ pm_sub l2 l2'
    unfold pm_dx1 at h ⊢
    split at h
    · split at h
      · rename_i hc; cases h; exact ⟨l', by rw [if_pos hc], hs⟩
      · cases h
    · cases h
  case dup_x2 =>
    replace h : pm_dx2 l st = some (l2, st2) := h
    show ∃ l2', pm_dx2 l' st = some (l2', st2) ∧ pm_sub l2 l2'
    unfold pm_dx2 at h ⊢
    split at h
    · split at h
      · rename_i hc; cases h; exact ⟨l', by rw [if_pos hc], hs⟩
      · cases h
    · cases h
  case dup2 =>
    replace h : pm_du2 l st = some (l2, st2) := h
    show ∃ l2', pm_du2 l' st = some (l2', st2) ∧ pm_sub l2 l2'
    unfold pm_du2 at h ⊢
    split at h
    · split at h
      · rename_i hc; cases h; exact ⟨l', by rw [if_pos hc], hs⟩
      · cases h
    · cases h
  all_goals exact nomatch (show (none : Option (pm_L × List Value)) = some (l2, st2) from h)
theorem pm_sim_none {nL : Nat} {i : Instr} {l l' : pm_L} {st : List Value} {T : pm_M} {scr : Option (Nat × (Nat → Int32))} {ph : List va_E} {pc : Nat} (h : pm_sim nL i l st = none) : pm_sim nL i l' st = none ∨ (pm_jmp i pc st = none ∧ pm_rd T scr i st ph = none ∧ pm_wr T i st ph = none ∧ pm_nw T i st = none ∧ pm_nat T i st = none ∧ pm_cpw T i st ph = none ∧ pm_ret T i st = none ∧ pm_cal T i st ph = none) := by
  cases i
  all_goals first | exact Or.inr ⟨rfl, rfl, rfl, rfl, rfl, rfl, rfl, rfl⟩ | exact Or.inl rfl
theorem pm_run_sub : ∀ (f : Nat) {scr : Option (Nat × (Nat → Int32))} {d : Nat} {T : pm_M} {pc : Nat} {l l' : pm_L} {st : List Value} {ph : List va_E} {nc ns : Nat} {r : Option Value × List va_E × Nat × Nat}, pm_sub l l' → pm_run f scr d T pc l st ph nc ns = some r → pm_run f scr d T pc l' st ph nc ns = some r
  | 0, _, _, _, _, _, _, _, _, _, _, _, _, h => by cases h
  | f + 1, scr, d, T, pc, l, l', st, ph, nc, ns, r, hs, h => by
    unfold pm_run at h ⊢
    cases hw : pm_as (pm_cd T) pc with
    | none => rw [hw] at h; cases h
    | some w =>
      rw [hw] at h
      dsimp only at h ⊢
      cases h1 : pm_sim (pm_ml T) w.1 l st with
      | some x =>
        obtain ⟨l2, st2⟩ := x
        obtain ⟨l2', e, hs2⟩ := pm_sim_sub hs h1
        rw [h1] at h
        rw [e]
        exact pm_run_sub f hs2 h
      | none =>
        rw [h1] at h
        dsimp only at h
        rcases pm_sim_none (l' := l') (T := T) (scr := scr) (ph := ph) (pc := pc) h1 with e | ⟨e1, e2, e3, e4, e5, e6, e7, e8⟩
        · rw [e]
          dsimp only
          cases h2 : pm_jmp w.1 pc st with
          | some x => rw [h2] at h; exact pm_run_sub f hs h
          | none =>
          rw [h2] at h
          dsimp only at h ⊢
          cases h3 : pm_rd T scr w.1 st ph with
          | some x => rw [h3] at h; exact pm_run_sub f hs h
          | none =>
          rw [h3] at h
          dsimp only at h ⊢
          cases h4 : pm_wr T w.1 st ph with
          | some x => rw [h4] at h; exact pm_run_sub f hs h
          | none =>
          rw [h4] at h
          dsimp only at h ⊢
          cases h5 : pm_nw T w.1 st with
          | some x => rw [h5] at h; exact pm_run_sub f hs h
          | none =>
          rw [h5] at h
          dsimp only at h ⊢
          cases h6 : pm_nat T w.1 st with
          | some x => rw [h6] at h; exact pm_run_sub f hs h
          | none =>
          rw [h6] at h
          dsimp only at h ⊢
          cases h7 : pm_cpw T w.1 st ph with
          | some x => rw [h7] at h; exact pm_run_sub f hs h
          | none =>
          rw [h7] at h
          dsimp only at h ⊢
          cases h8 : pm_ret T w.1 st with
          | some x => rw [h8] at h; exact h
          | none =>
          rw [h8] at h
          dsimp only at h ⊢
          cases d with
          | zero => cases h
          | succ d2 =>
          dsimp only at h ⊢
          cases h9 : pm_cal T w.1 st ph with
          | none => rw [h9] at h; cases h
          | some x =>
          rw [h9] at h
          dsimp only at h ⊢
          cases hy : pm_run f none d2 x.1 0 (lv_args 0 x.2.1) [] ph 0 0 with
          | none => rw [hy] at h; cases h
          | some y =>
          rw [hy] at h
          exact pm_run_sub f hs h
        · exfalso
          rw [e1] at h
          dsimp only at h
          rw [e2] at h
          dsimp only at h
          rw [e3] at h
          dsimp only at h
          rw [e4] at h
          dsimp only at h
          rw [e5] at h
          dsimp only at h
          rw [e6] at h
          dsimp only at h
          rw [e7] at h
          dsimp only at h
          cases d with
          | zero => cases h
          | succ d2 =>
          dsimp only at h
          rw [e8] at h
          cases h
theorem pm_get_app {i : Nat} {v : Value} {ex : pm_L} : ∀ {l : pm_L}, pm_get l i = some v → pm_get (l ++ ex) i = some v
  | [], h => by cases h
  | q :: r, h => by
    have h' : (if q.1 = i then some q.2 else pm_get r i) = some v := h
    show (if q.1 = i then some q.2 else pm_get (r ++ ex) i) = some v
    split
    · rename_i e; rw [if_pos e] at h'; exact h'
    · rename_i e; rw [if_neg e] at h'; exact pm_get_app h'
theorem pm_e_more {scr : Option (Nat × (Nat → Int32))} {d : Nat} {T : pm_M} {pc : Nat} {l : pm_L} (ex : pm_L) {st : List Value} {ph : List va_E} {nc ns : Nat} {Q : Option Value → List va_E → Nat → Nat → Prop} (hn : (pm_ks (l ++ ex)).Nodup) (h : pm_E scr d T pc l st ph nc ns Q) : pm_E scr d T pc (l ++ ex) st ph nc ns Q := by
  obtain ⟨f, v, ph2, nc2, ns2, h, hq⟩ := h
  refine ⟨f, v, ph2, nc2, ns2, pm_run_sub f ⟨?_, hn, fun i v => pm_get_app⟩ h, hq⟩
  unfold pm_ks at hn ⊢
  rw [List.map_append] at hn
  exact (List.nodup_append.mp hn).1
