/-! THE PURE MACHINE, 2: jumps and switches -/
def pm_tgt (pc : Nat) (off : Int) : Option Nat := match (pc : Int) + off with
  | .ofNat t => some t
  | .negSucc _ => none
theorem pm_tgt_ok {pc t : Nat} {off : Int} (h : pm_tgt pc off = some t) : (pc : Int) + off = (t : Int) := by
  unfold pm_tgt at h
  split at h
  · rename_i u hu; cases h; exact hu
  · cases h
def pm_cz (c : Jvm.ClassFile.Cond) (x y : Int32) : Bool := match c with
  | .eq => decide (x = y)
  | .ne => !decide (x = y)
  | .lt => decide (x < y)
  | .ge => decide (y ≤ x)
  | .gt => decide (y < x)
  | .le => decide (x ≤ y)
def pm_jto (pc : Nat) (off : Int) (st : List Value) : Option (Nat × List Value) := match pm_tgt pc off with
  | some t => some (t, st)
  | none => none
def pm_jc (b : Bool) (pc : Nat) (off : Int) (st : List Value) : Option (Nat × List Value) := match pm_tgt pc off with
  | some t => some (if b = true then t else pc + 3, st)
  | none => none
theorem pm_jto_ok {pc t : Nat} {off : Int} {st st2 : List Value} (h : pm_jto pc off st = some (t, st2)) : (pc : Int) + off = (t : Int) ∧ st2 = st := by
  unfold pm_jto at h
  split at h
  · rename_i u hu; cases h; exact ⟨pm_tgt_ok hu, rfl⟩
  · cases h
theorem pm_jc_ok {b : Bool} {pc t : Nat} {off : Int} {st st2 : List Value} (h : pm_jc b pc off st = some (t, st2)) : ∃ u : Nat, (pc : Int) + off = (u : Int) ∧ st2 = st ∧ (b = true → t = u) ∧ (b = false → t = pc + 3) := by
  unfold pm_jc at h
  split at h
  · rename_i u hu
    cases h
    refine ⟨u, pm_tgt_ok hu, rfl, fun q => by rw [if_pos q], fun q => by rw [if_neg (by rw [q]; decide)]⟩
  · cases h
def pm_jz (c : Jvm.ClassFile.Cond) (off : Int) (pc : Nat) (st : List Value) : Option (Nat × List Value) := match st with
  | .int x :: r => pm_jc (pm_cz c x 0) pc off r
  | _ => none
def pm_j2 (c : Jvm.ClassFile.Cond) (off : Int) (pc : Nat) (st : List Value) : Option (Nat × List Value) := match st with
  | .int y :: .int x :: r => pm_jc (pm_cz c x y) pc off r
  | _ => none
def pm_jn (off : Int) (pc : Nat) (st : List Value) : Option (Nat × List Value) := match st with
  | .null :: r => pm_jto pc off r
  | .ref _ :: r => some (pc + 3, r)
  | _ => none
def pm_jm (off : Int) (pc : Nat) (st : List Value) : Option (Nat × List Value) := match st with
  | .null :: r => some (pc + 3, r)
  | .ref _ :: r => pm_jto pc off r
  | _ => none
def pm_ts (d lo hi : Int) (offs : Array Int) (pc : Nat) (st : List Value) : Option (Nat × List Value) := match st with
  | .int x :: r => if x.toInt < lo ∨ hi < x.toInt then pm_jto pc d r else match offs[(x.toInt - lo).toNat]? with
    | some o => pm_jto pc o r
    | none => none
  | _ => none
def pm_lks (d : Int) (ps : Array (Int × Int)) (pc : Nat) (st : List Value) : Option (Nat × List Value) := match st with
  | .int x :: r => if (ps.toList.zip (ps.toList.drop 1)).all (fun (a, next) => a.1 < next.1) = true then pm_jto pc (Op.lookupswitch.offset ps.toList d x.toInt) r else none
  | _ => none
def pm_jmp (i : Instr) (pc : Nat) (st : List Value) : Option (Nat × List Value) := match i with
  | .goto off => pm_jto pc off st
  | .ifCond c off => pm_jz c off pc st
  | .if_icmp c off => pm_j2 c off pc st
  | .ifnull off => pm_jn off pc st
  | .ifnonnull off => pm_jm off pc st
  | .tableswitch d lo hi offs => pm_ts d lo hi offs pc st
  | .lookupswitch d ps => pm_lks d ps pc st
  | _ => none
theorem pm_cz_eq {x y : Int32} : pm_cz .eq x y = true ↔ x = y := by simp [pm_cz]
theorem pm_cz_ne {x y : Int32} : pm_cz .ne x y = true ↔ ¬ x = y := by simp [pm_cz]
theorem pm_cz_lt {x y : Int32} : pm_cz .lt x y = true ↔ x < y := by simp [pm_cz]
theorem pm_cz_ge {x y : Int32} : pm_cz .ge x y = true ↔ y ≤ x := by simp [pm_cz]
theorem pm_cz_gt {x y : Int32} : pm_cz .gt x y = true ↔ y < x := by simp [pm_cz]
theorem pm_cz_le {x y : Int32} : pm_cz .le x y = true ↔ x ≤ y := by simp [pm_cz]
theorem pm_bf {b : Bool} {P : Prop} (h : b = true ↔ P) (n : ¬ P) : b = false := by
  cases b
  · rfl
  · exact absurd (h.mp rfl) n
section PMJMP
variable {p : Program} {l : Launch} {e : Env} {R : Room} {s : State} {m : MethodId} {args : Array Value} {below : List Frame} {meth : Method} {c : Code} {H : Heap} {locs : List Loc} {cells slots : Nat} {Q : State → Prop}
variable {cc : ByteArray} {pc nL : Nat} {ls : Array Slot} {bS : Nat → Nat} {ad : List Nat}
theorem pm_jmp_ok (hx : p.tables.exec = Jvm.exec) (hb : c.code = cc) {i : Instr} {pc2 len : Nat} {st st2 stA : List Value} (h : pm_jmp i pc st = some (pc2, st2)) (hd : decode cc pc = .ok (i, len)) (hk : pm_isw i = true ∨ len = pm_len i) (hs : pm_rs bS ad st stA)
    (kk : ∀ stA2 : List Value, pm_rs bS ad st2 stA2 → W p l e R s m args below meth c H locs cells slots Q (F0 m pc2 ls stA2)) : W p l e R s m args below meth c H locs cells slots Q (F0 m pc ls stA) := by
  cases i
  case goto off =>
    obtain ⟨ht, rfl⟩ := pm_jto_ok h
    rcases hk with hk | hk
    · cases hk
    · subst hk
      exact lv_goto hx hb hd ht (kk _ hs)
  case ifCond cn off =>
    rcases hk with hk | hk
    · cases hk
    subst hk
    replace h : pm_jz cn off pc st = some (pc2, st2) := h
    unfold pm_jz at h
    split at h
    · rename_i x r
      obtain ⟨r1, rfl, h1⟩ := pm_rs_i hs
      obtain ⟨u, ht, rfl, hy, hn⟩ := pm_jc_ok h
      have k1 := kk _ h1
      cases cn
      · exact lv_if_eq hx hb hd ht (fun q => by rw [← hy (pm_cz_eq.mpr q)]; exact k1) (fun q => by rw [← hn (pm_bf pm_cz_eq q)]; exact k1)
      · exact lv_if_ne hx hb hd ht (fun q => by rw [← hy (pm_cz_ne.mpr q)]; exact k1) (fun q => by rw [← hn (pm_bf pm_cz_ne (fun z => z q))]; exact k1)
      · exact lv_if_lt hx hb hd ht (fun q => by rw [← hy (pm_cz_lt.mpr q)]; exact k1) (fun q => by rw [← hn (pm_bf pm_cz_lt q)]; exact k1)
      · exact lv_if_ge hx hb hd ht (fun q => by rw [← hy (pm_cz_ge.mpr q)]; exact k1) (fun q => by rw [← hn (pm_bf pm_cz_ge q)]; exact k1)
      · exact lv_if_gt hx hb hd ht (fun q => by rw [← hy (pm_cz_gt.mpr q)]; exact k1) (fun q => by rw [← hn (pm_bf pm_cz_gt q)]; exact k1)
      · exact lv_if_le hx hb hd ht (fun q => by rw [← hy (pm_cz_le.mpr q)]; exact k1) (fun q => by rw [← hn (pm_bf pm_cz_le q)]; exact k1)
    · cases h
  case if_icmp cn off =>
    rcases hk with hk | hk
    · cases hk
    subst hk
    replace h : pm_j2 cn off pc st = some (pc2, st2) := h
    unfold pm_j2 at h
    split at h
    · rename_i y x r
      obtain ⟨r0, rfl, h0⟩ := pm_rs_i hs
      obtain ⟨r1, rfl, h1⟩ := pm_rs_i h0
      obtain ⟨u, ht, rfl, hy, hn⟩ := pm_jc_ok h
      have k1 := kk _ h1
      cases cn
      · exact lv_icmp_eq hx hb hd ht (fun q => by rw [← hy (pm_cz_eq.mpr q)]; exact k1) (fun q => by rw [← hn (pm_bf pm_cz_eq q)]; exact k1)
      · exact lv_icmp_ne hx hb hd ht (fun q => by rw [← hy (pm_cz_ne.mpr q)]; exact k1) (fun q => by rw [← hn (pm_bf pm_cz_ne (fun z => z q))]; exact k1)
      · exact lv_icmp_lt hx hb hd ht (fun q => by rw [← hy (pm_cz_lt.mpr q)]; exact k1) (fun q => by rw [← hn (pm_bf pm_cz_lt q)]; exact k1)
      · exact lv_icmp_ge hx hb hd ht (fun q => by rw [← hy (pm_cz_ge.mpr q)]; exact k1) (fun q => by rw [← hn (pm_bf pm_cz_ge q)]; exact k1)
      · exact lv_icmp_gt hx hb hd ht (fun q => by rw [← hy (pm_cz_gt.mpr q)]; exact k1) (fun q => by rw [← hn (pm_bf pm_cz_gt q)]; exact k1)
      · exact lv_icmp_le hx hb hd ht (fun q => by rw [← hy (pm_cz_le.mpr q)]; exact k1) (fun q => by rw [← hn (pm_bf pm_cz_le q)]; exact k1)
    · cases h
  case ifnull off =>
    rcases hk with hk | hk
    · cases hk
    subst hk
    replace h : pm_jn off pc st = some (pc2, st2) := h
    unfold pm_jn at h
    split at h
    · obtain ⟨r1, rfl, h1⟩ := pm_rs_n hs
      obtain ⟨ht, rfl⟩ := pm_jto_ok h
      exact lv_ifnullN hx hb hd ht (kk _ h1)
    · obtain ⟨a, r1, -, rfl, h1⟩ := pm_rs_r hs
      cases h
      exact lv_ifnull hx hb hd (kk _ h1)
    · cases h
  case ifnonnull off =>
    rcases hk with hk | hk
    · cases hk
    subst hk
    replace h : pm_jm off pc st = some (pc2, st2) := h
    unfold pm_jm at h
    split at h
    · obtain ⟨r1, rfl, h1⟩ := pm_rs_n hs
      cases h
      exact lv_ifnonnullN hx hb hd (kk _ h1)
    · obtain ⟨a, r1, -, rfl, h1⟩ := pm_rs_r hs
      obtain ⟨ht, rfl⟩ := pm_jto_ok h
      exact lv_ifnonnull hx hb hd ht (kk _ h1)
    · cases h
  case tableswitch d lo hi offs =>
    replace h : pm_ts d lo hi offs pc st = some (pc2, st2) := h
    unfold pm_ts at h
    split at h
    · rename_i x r
      obtain ⟨r1, rfl, h1⟩ := pm_rs_i hs
      split at h
      · rename_i hc
        obtain ⟨ht, rfl⟩ := pm_jto_ok h
        exact lv_tableOut hx hb hd hc ht (kk _ h1)
      · rename_i hc
        split at h
        · rename_i o ho
          obtain ⟨ht, rfl⟩ := pm_jto_ok h
          exact lv_tableIn hx hb hd (fun z => hc (Or.inl z)) (fun z => hc (Or.inr z)) ho ht (kk _ h1)
        · cases h
    · cases h
  case lookupswitch d ps =>
    replace h : pm_lks d ps pc st = some (pc2, st2) := h
    unfold pm_lks at h
    split at h
    · rename_i x r
      obtain ⟨r1, rfl, h1⟩ := pm_rs_i hs
      split at h
      · rename_i hc
        obtain ⟨ht, rfl⟩ := pm_jto_ok h
        exact lv_lookup hx hb hd hc rfl ht (kk _ h1)
      · cases h
    · cases h
  all_goals exact nomatch (show (none : Option (Nat × List Value)) = some (pc2, st2) from h)
end PMJMP
