/-! THE PURE MACHINE, 1: values, locals, operand stacks. A pure reference is a place in a list of cells; retAddr stands for the law's script. pm_rv and its like: what the machine has for it, by the list ad of addresses. -/
abbrev pm_L : Type := List (Nat × Value)
def pm_get (lv : pm_L) (i : Nat) : Option Value := match lv with
  | [] => none
  | q :: r => if q.1 = i then some q.2 else pm_get r i
/-- locals stand by their numbers, the least first -/
def pm_ins (i : Nat) (v : Value) : pm_L → pm_L
  | [] => [(i, v)]
  | q :: r => if i < q.1 then (i, v) :: q :: r else q :: pm_ins i v r
def pm_set (lv : pm_L) (i : Nat) (v : Value) : pm_L := pm_ins i v (lv.filter (fun q => !(q.1 == i) && !(q.1 + 1 == i && q.2.category == 2)))
def pm_set2 (lv : pm_L) (i : Nat) (v : Value) : pm_L := pm_ins i v (lv.filter (fun q => !(q.1 == i) && (!(q.1 == i + 1) && !(q.1 + 1 == i && q.2.category == 2))))
theorem pm_ins_mem {i : Nat} {v : Value} {q : Nat × Value} : ∀ {l : pm_L}, q ∈ pm_ins i v l → q ∈ (i, v) :: l
  | [], h => h
  | x :: r, h => by
    unfold pm_ins at h
    split at h
    · exact h
    · rcases List.mem_cons.mp h with rfl | h
      · exact List.mem_cons_of_mem _ List.mem_cons_self
      · rcases List.mem_cons.mp (pm_ins_mem h) with rfl | h
        · exact List.mem_cons_self
        · exact List.mem_cons_of_mem _ (List.mem_cons_of_mem _ h)
theorem pm_lv_ins {ls : Array Slot} {nL i : Nat} {v : Value} {l : pm_L} (h : lv_has ls nL ((i, v) :: l)) : lv_has ls nL (pm_ins i v l) := ⟨h.1, h.2.1, fun q hq => h.2.2 q (pm_ins_mem hq)⟩
def pm_rv (bS : Nat → Nat) (ad : List Nat) (v w : Value) : Prop := match v with
  | .ref k => ∃ a, ad[k]? = some a ∧ w = .ref a
  | .retAddr n => w = .ref (bS n) ∨ (n = 5 ∧ w = .null)
  | .int x => w = .int x
  | .long x => w = .long x
  | .null => w = .null
  | _ => False
def pm_rs (bS : Nat → Nat) (ad : List Nat) : List Value → List Value → Prop
  | [], [] => True
  | v :: r, w :: r' => pm_rv bS ad v w ∧ pm_rs bS ad r r'
  | _, _ => False
def pm_rl (bS : Nat → Nat) (ad : List Nat) : pm_L → pm_L → Prop
  | [], [] => True
  | q :: r, q' :: r' => q.1 = q'.1 ∧ pm_rv bS ad q.2 q'.2 ∧ pm_rl bS ad r r'
  | _, _ => False
theorem pm_at_app {ad ad2 : List Nat} {k a : Nat} (h : ad[k]? = some a) : (ad ++ ad2)[k]? = some a := by
  rw [List.getElem?_append_left (List.getElem?_eq_some_iff.mp h).1]; exact h
theorem pm_rv.mono {bS : Nat → Nat} {ad ad2 : List Nat} {v w : Value} (h : pm_rv bS ad v w) : pm_rv bS (ad ++ ad2) v w := by
  cases v with
  | ref k => obtain ⟨a, h1, h2⟩ := h; exact ⟨a, pm_at_app h1, h2⟩
  | _ => exact h
theorem pm_rs.mono {bS : Nat → Nat} {ad ad2 : List Nat} : ∀ {st st' : List Value}, pm_rs bS ad st st' → pm_rs bS (ad ++ ad2) st st'
  | [], [], _ => trivial
  | _ :: _, _ :: _, h => ⟨h.1.mono, pm_rs.mono h.2⟩
  | [], _ :: _, h => h.elim
  | _ :: _, [], h => h.elim
theorem pm_rl.mono {bS : Nat → Nat} {ad ad2 : List Nat} : ∀ {st st' : pm_L}, pm_rl bS ad st st' → pm_rl bS (ad ++ ad2) st st'
  | [], [], _ => trivial
  | _ :: _, _ :: _, h => ⟨h.1, h.2.1.mono, pm_rl.mono h.2.2⟩
  | [], _ :: _, h => h.elim
  | _ :: _, [], h => h.elim
theorem pm_rv.cat {bS : Nat → Nat} {ad : List Nat} {v w : Value} (h : pm_rv bS ad v w) : w.category = v.category := by
  cases v with
  | ref k => obtain ⟨a, -, h2⟩ := h; rw [h2]; rfl
  | retAddr n =>
    rcases (show w = .ref (bS n) ∨ (n = 5 ∧ w = .null) from h) with h | ⟨_, h⟩
    · rw [h]; rfl
    · rw [h]; rfl
  | int x => rw [show w = .int x from h]
  | long x => rw [show w = .long x from h]
  | null => rw [show w = .null from h]
  | float x => exact h.elim
  | double x => exact h.elim
theorem pm_rs_cons {bS : Nat → Nat} {ad : List Nat} {v : Value} {r stA : List Value} (h : pm_rs bS ad (v :: r) stA) : ∃ w r', stA = w :: r' ∧ pm_rv bS ad v w ∧ pm_rs bS ad r r' := by
  cases stA with
  | nil => exact h.elim
  | cons w r' => exact ⟨w, r', rfl, h.1, h.2⟩
theorem pm_rs_nil {bS : Nat → Nat} {ad : List Nat} {stA : List Value} (h : pm_rs bS ad [] stA) : stA = [] := by
  cases stA with
  | nil => rfl
  | cons w r' => exact h.elim
theorem pm_rs_len {bS : Nat → Nat} {ad : List Nat} : ∀ {st st' : List Value}, pm_rs bS ad st st' → st'.length = st.length
  | [], [], _ => rfl
  | _ :: _, _ :: _, h => by simp [pm_rs_len h.2]
  | [], _ :: _, h => h.elim
  | _ :: _, [], h => h.elim
theorem pm_rs_app {bS : Nat → Nat} {ad : List Nat} : ∀ {a a' b b' : List Value}, pm_rs bS ad a a' → pm_rs bS ad b b' → pm_rs bS ad (a ++ b) (a' ++ b')
  | [], [], _, _, _, h => h
  | _ :: _, _ :: _, _, _, h, h2 => ⟨h.1, pm_rs_app h.2 h2⟩
  | [], _ :: _, _, _, h, _ => h.elim
  | _ :: _, [], _, _, h, _ => h.elim
theorem pm_rs_rev {bS : Nat → Nat} {ad : List Nat} : ∀ {a a' : List Value}, pm_rs bS ad a a' → pm_rs bS ad a.reverse a'.reverse
  | [], [], _ => trivial
  | v :: r, w :: r', h => by
    rw [List.reverse_cons, List.reverse_cons]
    exact pm_rs_app (pm_rs_rev h.2) ⟨h.1, trivial⟩
  | [], _ :: _, h => h.elim
  | _ :: _, [], h => h.elim
theorem pm_rs_split {bS : Nat → Nat} {ad : List Nat} : ∀ {a b c : List Value}, pm_rs bS ad (a ++ b) c → ∃ a' b', c = a' ++ b' ∧ pm_rs bS ad a a' ∧ pm_rs bS ad b b'
  | [], b, c, h => ⟨[], c, rfl, trivial, h⟩
  | v :: r, b, c, h => by
    obtain ⟨w, r', rfl, h1, h2⟩ := pm_rs_cons h
    obtain ⟨a', b', rfl, h3, h4⟩ := pm_rs_split h2
    exact ⟨w :: a', b', rfl, ⟨h1, h3⟩, h4⟩
theorem pm_rs_cats {bS : Nat → Nat} {ad : List Nat} : ∀ {a a' : List Value}, pm_rs bS ad a a' → (a'.map fun v => v.category) = a.map fun v => v.category
  | [], [], _ => rfl
  | v :: r, w :: r', h => by simp [pm_rs_cats h.2, h.1.cat]
  | [], _ :: _, h => h.elim
  | _ :: _, [], h => h.elim
theorem pm_rl.get {bS : Nat → Nat} {ad : List Nat} {i : Nat} {v : Value} : ∀ {lv lvA : pm_L}, pm_rl bS ad lv lvA → pm_get lv i = some v → ∃ w, (i, w) ∈ lvA ∧ pm_rv bS ad v w
  | [], [], _, h => by cases h
  | q :: r, q' :: r', hr, h => by
    unfold pm_get at h
    split at h
    · rename_i hq
      cases h
      refine ⟨q'.2, ?_, hr.2.1⟩
      rw [← hq, hr.1]
      exact List.mem_cons_self
    · obtain ⟨w, h1, h2⟩ := pm_rl.get hr.2.2 h
      exact ⟨w, List.mem_cons_of_mem _ h1, h2⟩
  | [], _ :: _, h, _ => h.elim
  | _ :: _, [], h, _ => h.elim
theorem pm_rl.filt {bS : Nat → Nat} {ad : List Nat} {f : Nat × Value → Bool} (hf : ∀ q q' : Nat × Value, q.1 = q'.1 → q'.2.category = q.2.category → f q' = f q) : ∀ {lv lvA : pm_L}, pm_rl bS ad lv lvA → pm_rl bS ad (lv.filter f) (lvA.filter f)
  | [], [], _ => trivial
  | q :: r, q' :: r', hr => by
    have h1 := hf q q' hr.1 hr.2.1.cat
    have h2 := pm_rl.filt hf hr.2.2
    rw [List.filter_cons, List.filter_cons, h1]
    split
    · exact ⟨hr.1, hr.2.1, h2⟩
    · exact h2
  | [], _ :: _, h => h.elim
  | _ :: _, [], h => h.elim
theorem pm_rl.ins {bS : Nat → Nat} {ad : List Nat} {i : Nat} {v w : Value} (hv : pm_rv bS ad v w) : ∀ {lv lvA : pm_L}, pm_rl bS ad lv lvA → pm_rl bS ad (pm_ins i v lv) (pm_ins i w lvA)
  | [], [], _ => ⟨rfl, hv, trivial⟩
  | q :: r, q' :: r', hr => by
    unfold pm_ins
    rw [← hr.1]
    split
    · exact ⟨rfl, hv, hr⟩
    · exact ⟨hr.1, hr.2.1, pm_rl.ins hv hr.2.2⟩
  | [], _ :: _, h => h.elim
  | _ :: _, [], h => h.elim
theorem pm_rl.set {bS : Nat → Nat} {ad : List Nat} {i : Nat} {v w : Value} {lv lvA : pm_L} (h : pm_rl bS ad lv lvA) (hv : pm_rv bS ad v w) : pm_rl bS ad (pm_set lv i v) (pm_set lvA i w) :=
  pm_rl.ins hv (h.filt (fun q q' h1 h2 => by simp only [h1, h2]))
theorem pm_rl.set2 {bS : Nat → Nat} {ad : List Nat} {i : Nat} {v w : Value} {lv lvA : pm_L} (h : pm_rl bS ad lv lvA) (hv : pm_rv bS ad v w) : pm_rl bS ad (pm_set2 lv i v) (pm_set2 lvA i w) :=
  pm_rl.ins hv (h.filt (fun q q' h1 h2 => by simp only [h1, h2]))
/-! what an instruction does to locals and stack alone -/
def pm_i1 (st : List Value) : Option (Int32 × List Value) := match st with
  | .int x :: r => some (x, r)
  | _ => none
def pm_l1 (st : List Value) : Option (Int64 × List Value) := match st with
  | .long x :: r => some (x, r)
  | _ => none
def pm_c1 (st : List Value) : Option (Value × List Value) := match st with
  | v :: r => if v.category = 1 then some (v, r) else none
  | _ => none
theorem pm_i1_ok {st r : List Value} {x : Int32} (h : pm_i1 st = some (x, r)) : st = .int x :: r := by
  unfold pm_i1 at h; split at h
  · cases h; rfl
  · cases h
theorem pm_l1_ok {st r : List Value} {x : Int64} (h : pm_l1 st = some (x, r)) : st = .long x :: r := by
  unfold pm_l1 at h; split at h
  · cases h; rfl
  · cases h
theorem pm_c1_ok {st r : List Value} {v : Value} (h : pm_c1 st = some (v, r)) : st = v :: r ∧ v.category = 1 := by
  unfold pm_c1 at h; split at h
  · split at h
    · rename_i hc; cases h; exact ⟨rfl, hc⟩
    · cases h
  · cases h
def pm_ldi (lv : pm_L) (i : Nat) (st : List Value) : Option (pm_L × List Value) := match pm_get lv i with
  | some (.int x) => some (lv, .int x :: st)
  | _ => none
def pm_ldl (lv : pm_L) (i : Nat) (st : List Value) : Option (pm_L × List Value) := match pm_get lv i with
  | some (.long x) => some (lv, .long x :: st)
  | _ => none
def pm_lda (lv : pm_L) (i : Nat) (st : List Value) : Option (pm_L × List Value) := match pm_get lv i with
  | some (.ref x) => some (lv, .ref x :: st)
  | some .null => some (lv, .null :: st)
  | some (.retAddr x) => some (lv, .retAddr x :: st)
  | _ => none
def pm_sti (nL : Nat) (lv : pm_L) (i : Nat) (st : List Value) : Option (pm_L × List Value) := match st with
  | .int x :: r => if i < nL then some (pm_set lv i (.int x), r) else none
  | _ => none
def pm_stl (nL : Nat) (lv : pm_L) (i : Nat) (st : List Value) : Option (pm_L × List Value) := match st with
  | .long x :: r => if i + 1 < nL then some (pm_set2 lv i (.long x), r) else none
  | _ => none
def pm_sta (nL : Nat) (lv : pm_L) (i : Nat) (st : List Value) : Option (pm_L × List Value) := match st with
  | .ref x :: r => if i < nL then some (pm_set lv i (.ref x), r) else none
  | .null :: r => if i < nL then some (pm_set lv i .null, r) else none
  | _ => none
def pm_inc (nL : Nat) (lv : pm_L) (i : Nat) (n : Int) (st : List Value) : Option (pm_L × List Value) := match pm_get lv i with
  | some (.int x) => if i < nL then some (pm_set lv i (.int (x + Int32.ofInt n)), st) else none
  | _ => none
def pm_bi (f : Int32 → Int32 → Int32) (lv : pm_L) (st : List Value) : Option (pm_L × List Value) := match st with
  | .int y :: .int x :: r => some (lv, .int (f x y) :: r)
  | _ => none
def pm_bd (f : Int32 → Int32 → Int32) (lv : pm_L) (st : List Value) : Option (pm_L × List Value) := match st with
  | .int y :: .int x :: r => if y = 0 then none else some (lv, .int (f x y) :: r)
  | _ => none
def pm_ui (f : Int32 → Value) (lv : pm_L) (st : List Value) : Option (pm_L × List Value) := match st with
  | .int x :: r => some (lv, f x :: r)
  | _ => none
def pm_bl (f : Int64 → Int64 → Value) (lv : pm_L) (st : List Value) : Option (pm_L × List Value) := match st with
  | .long y :: .long x :: r => some (lv, f x y :: r)
  | _ => none
def pm_ul (f : Int64 → Value) (lv : pm_L) (st : List Value) : Option (pm_L × List Value) := match st with
  | .long x :: r => some (lv, f x :: r)
  | _ => none
def pm_dup (lv : pm_L) (st : List Value) : Option (pm_L × List Value) := match st with
  | v :: r => if v.category = 1 then some (lv, v :: v :: r) else none
  | _ => none
def pm_pop (lv : pm_L) (st : List Value) : Option (pm_L × List Value) := match st with
  | v :: r => if v.category = 1 then some (lv, r) else none
  | _ => none
def pm_dx1 (lv : pm_L) (st : List Value) : Option (pm_L × List Value) := match st with
  | v :: w :: r => if v.category = 1 ∧ w.category = 1 then some (lv, v :: w :: v :: r) else none
  | _ => none
def pm_dx2 (lv : pm_L) (st : List Value) : Option (pm_L × List Value) := match st with
  | v :: w :: u :: r => if v.category = 1 ∧ w.category = 1 ∧ u.category = 1 then some (lv, v :: w :: u :: v :: r) else none
  | _ => none
def pm_du2 (lv : pm_L) (st : List Value) : Option (pm_L × List Value) := match st with
  | v :: w :: r => if v.category = 1 ∧ w.category = 1 then some (lv, v :: w :: v :: w :: r) else none
  | _ => none
def pm_sim (nL : Nat) (i : Instr) (lv : pm_L) (st : List Value) : Option (pm_L × List Value) := match i with
  | .iconst n => some (lv, .int (Int32.ofInt n) :: st)
  | .bipush n => some (lv, .int (Int8.ofInt n).toInt32 :: st)
  | .sipush n => some (lv, .int (Int16.ofInt n).toInt32 :: st)
  | .lconst n => some (lv, .long (Int64.ofNat n.val) :: st)
  | .aconst_null => some (lv, .null :: st)
  | .iload_n k => pm_ldi lv k.val st
  | .iload k => pm_ldi lv k st
  | .lload_n k => pm_ldl lv k.val st
  | .lload k => pm_ldl lv k st
  | .aload_n k => pm_lda lv k.val st
  | .aload k => pm_lda lv k st
  | .istore_n k => pm_sti nL lv k.val st
  | .istore k => pm_sti nL lv k st
  | .lstore_n k => pm_stl nL lv k.val st
  | .lstore k => pm_stl nL lv k st
  | .astore_n k => pm_sta nL lv k.val st
  | .astore k => pm_sta nL lv k st
  | .iinc k n => pm_inc nL lv k n st
  | .iadd => pm_bi (fun x y => x + y) lv st
  | .isub => pm_bi (fun x y => x - y) lv st
  | .imul => pm_bi (fun x y => x * y) lv st
  | .iand => pm_bi (fun x y => x &&& y) lv st
  | .ior => pm_bi (fun x y => x ||| y) lv st
  | .ishl => pm_bi (fun x y => x <<< (y &&& 31)) lv st
  | .ishr => pm_bi (fun x y => x >>> (y &&& 31)) lv st
  | .iushr => pm_bi (fun x y => (x.toUInt32 >>> (y.toUInt32 &&& Int32.toUInt32 31)).toInt32) lv st
  | .idiv => pm_bd (fun x y => x / y) lv st
  | .irem => pm_bd (fun x y => x - x / y * y) lv st
  | .ineg => pm_ui (fun x => .int (-x)) lv st
  | .i2l => pm_ui (fun x => .long x.toInt64) lv st
  | .i2c => pm_ui (fun x => .int (x.toUInt32 % 65536).toInt32) lv st
  | .i2b => pm_ui (fun x => .int x.toInt8.toInt32) lv st
  | .l2i => pm_ul (fun x => .int x.toInt32) lv st
  | .ladd => pm_bl (fun x y => .long (x + y)) lv st
  | .lsub => pm_bl (fun x y => .long (x - y)) lv st
  | .lmul => pm_bl (fun x y => .long (x * y)) lv st
  | .lcmp => pm_bl (fun x y => .int (lg_cmp x y)) lv st
  | .dup => pm_dup lv st
  | .pop => pm_pop lv st
  | .dup_x1 => pm_dx1 lv st
  | .dup_x2 => pm_dx2 lv st
  | .dup2 => pm_du2 lv st
  | _ => none
theorem pm_ldi_ok {lv lv2 : pm_L} {i : Nat} {st st2 : List Value} (h : pm_ldi lv i st = some (lv2, st2)) : ∃ x, pm_get lv i = some (.int x) ∧ lv2 = lv ∧ st2 = .int x :: st := by
  unfold pm_ldi at h; split at h
  · rename_i x hx; cases h; exact ⟨x, hx, rfl, rfl⟩
  · cases h
theorem pm_ldl_ok {lv lv2 : pm_L} {i : Nat} {st st2 : List Value} (h : pm_ldl lv i st = some (lv2, st2)) : ∃ x, pm_get lv i = some (.long x) ∧ lv2 = lv ∧ st2 = .long x :: st := by
  unfold pm_ldl at h; split at h
  · rename_i x hx; cases h; exact ⟨x, hx, rfl, rfl⟩
  · cases h
theorem pm_lda_ok {lv lv2 : pm_L} {i : Nat} {st st2 : List Value} (h : pm_lda lv i st = some (lv2, st2)) : ∃ v, pm_get lv i = some v ∧ lv2 = lv ∧ st2 = v :: st ∧ ((∃ x, v = .ref x) ∨ v = .null ∨ ∃ x, v = .retAddr x) := by
  unfold pm_lda at h; split at h
  · rename_i x hx; cases h; exact ⟨_, hx, rfl, rfl, Or.inl ⟨_, rfl⟩⟩
  · rename_i hx; cases h; exact ⟨_, hx, rfl, rfl, Or.inr (Or.inl rfl)⟩
  · rename_i x hx; cases h; exact ⟨_, hx, rfl, rfl, Or.inr (Or.inr ⟨_, rfl⟩)⟩
  · cases h
theorem pm_sti_ok {nL : Nat} {lv lv2 : pm_L} {i : Nat} {st st2 : List Value} (h : pm_sti nL lv i st = some (lv2, st2)) : ∃ x r, st = .int x :: r ∧ i < nL ∧ lv2 = pm_set lv i (.int x) ∧ st2 = r := by
  unfold pm_sti at h; split at h
  · split at h
    · rename_i hn; cases h; exact ⟨_, _, rfl, hn, rfl, rfl⟩
    · cases h
  · cases h
theorem pm_stl_ok {nL : Nat} {lv lv2 : pm_L} {i : Nat} {st st2 : List Value} (h : pm_stl nL lv i st = some (lv2, st2)) : ∃ x r, st = .long x :: r ∧ i + 1 < nL ∧ lv2 = pm_set2 lv i (.long x) ∧ st2 = r := by
  unfold pm_stl at h; split at h
  · split at h
    · rename_i hn; cases h; exact ⟨_, _, rfl, hn, rfl, rfl⟩
    · cases h
  · cases h
theorem pm_sta_ok {nL : Nat} {lv lv2 : pm_L} {i : Nat} {st st2 : List Value} (h : pm_sta nL lv i st = some (lv2, st2)) : ∃ v r, st = v :: r ∧ i < nL ∧ lv2 = pm_set lv i v ∧ st2 = r ∧ ((∃ x, v = .ref x) ∨ v = .null) := by
  unfold pm_sta at h; split at h
  · split at h
    · rename_i hn; cases h; exact ⟨_, _, rfl, hn, rfl, rfl, Or.inl ⟨_, rfl⟩⟩
    · cases h
  · split at h
    · rename_i hn; cases h; exact ⟨_, _, rfl, hn, rfl, rfl, Or.inr rfl⟩
    · cases h
  · cases h
theorem pm_inc_ok {nL : Nat} {lv lv2 : pm_L} {i : Nat} {n : Int} {st st2 : List Value} (h : pm_inc nL lv i n st = some (lv2, st2)) : ∃ x, pm_get lv i = some (.int x) ∧ i < nL ∧ lv2 = pm_set lv i (.int (x + Int32.ofInt n)) ∧ st2 = st := by
  unfold pm_inc at h; split at h
  · rename_i x hx
    split at h
    · rename_i hn; cases h; exact ⟨x, hx, hn, rfl, rfl⟩
    · cases h
  · cases h
theorem pm_bi_ok {f : Int32 → Int32 → Int32} {lv lv2 : pm_L} {st st2 : List Value} (h : pm_bi f lv st = some (lv2, st2)) : ∃ x y r, st = .int y :: .int x :: r ∧ lv2 = lv ∧ st2 = .int (f x y) :: r := by
  unfold pm_bi at h; split at h
  · cases h; exact ⟨_, _, _, rfl, rfl, rfl⟩
  · cases h
theorem pm_bd_ok {f : Int32 → Int32 → Int32} {lv lv2 : pm_L} {st st2 : List Value} (h : pm_bd f lv st = some (lv2, st2)) : ∃ x y r, st = .int y :: .int x :: r ∧ ¬ y = 0 ∧ lv2 = lv ∧ st2 = .int (f x y) :: r := by
  unfold pm_bd at h; split at h
  · split at h
    · cases h
    · rename_i hn; cases h; exact ⟨_, _, _, rfl, hn, rfl, rfl⟩
  · cases h
theorem pm_ui_ok {f : Int32 → Value} {lv lv2 : pm_L} {st st2 : List Value} (h : pm_ui f lv st = some (lv2, st2)) : ∃ x r, st = .int x :: r ∧ lv2 = lv ∧ st2 = f x :: r := by
  unfold pm_ui at h; split at h
  · cases h; exact ⟨_, _, rfl, rfl, rfl⟩
  · cases h
theorem pm_ul_ok {f : Int64 → Value} {lv lv2 : pm_L} {st st2 : List Value} (h : pm_ul f lv st = some (lv2, st2)) : ∃ x r, st = .long x :: r ∧ lv2 = lv ∧ st2 = f x :: r := by
  unfold pm_ul at h; split at h
  · cases h; exact ⟨_, _, rfl, rfl, rfl⟩
  · cases h
theorem pm_bl_ok {f : Int64 → Int64 → Value} {lv lv2 : pm_L} {st st2 : List Value} (h : pm_bl f lv st = some (lv2, st2)) : ∃ x y r, st = .long y :: .long x :: r ∧ lv2 = lv ∧ st2 = f x y :: r := by
  unfold pm_bl at h; split at h
  · cases h; exact ⟨_, _, _, rfl, rfl, rfl⟩
  · cases h
theorem pm_rs_i {bS : Nat → Nat} {ad : List Nat} {x : Int32} {r stA : List Value} (h : pm_rs bS ad (.int x :: r) stA) : ∃ r', stA = .int x :: r' ∧ pm_rs bS ad r r' := by
  obtain ⟨w, r', rfl, hw, hr⟩ := pm_rs_cons h
  exact ⟨r', by rw [show w = .int x from hw], hr⟩
theorem pm_rs_l {bS : Nat → Nat} {ad : List Nat} {x : Int64} {r stA : List Value} (h : pm_rs bS ad (.long x :: r) stA) : ∃ r', stA = .long x :: r' ∧ pm_rs bS ad r r' := by
  obtain ⟨w, r', rfl, hw, hr⟩ := pm_rs_cons h
  exact ⟨r', by rw [show w = .long x from hw], hr⟩
theorem pm_rs_n {bS : Nat → Nat} {ad : List Nat} {r stA : List Value} (h : pm_rs bS ad (.null :: r) stA) : ∃ r', stA = .null :: r' ∧ pm_rs bS ad r r' := by
  obtain ⟨w, r', rfl, hw, hr⟩ := pm_rs_cons h
  exact ⟨r', by rw [show w = .null from hw], hr⟩
theorem pm_rs_r {bS : Nat → Nat} {ad : List Nat} {k : Nat} {r stA : List Value} (h : pm_rs bS ad (.ref k :: r) stA) : ∃ a r', ad[k]? = some a ∧ stA = .ref a :: r' ∧ pm_rs bS ad r r' := by
  obtain ⟨w, r', rfl, ⟨a, ha, rfl⟩, hr⟩ := pm_rs_cons h
  exact ⟨a, r', ha, rfl, hr⟩
theorem pm_rs_s {bS : Nat → Nat} {ad : List Nat} {k : Nat} {r stA : List Value} (hk : k ≠ 5) (h : pm_rs bS ad (.retAddr k :: r) stA) : ∃ r', stA = .ref (bS k) :: r' ∧ pm_rs bS ad r r' := by
  obtain ⟨w, r', rfl, hw, hr⟩ := pm_rs_cons h
  rcases (show w = .ref (bS k) ∨ (k = 5 ∧ w = .null) from hw) with hw | ⟨hw, _⟩
  · exact ⟨r', by rw [hw], hr⟩
  · exact absurd hw hk
section PMSIM
variable {p : Program} {l : Launch} {e : Env} {R : Room} {s : State} {m : MethodId} {args : Array Value} {below : List Frame} {meth : Method} {c : Code} {H : Heap} {locs : List Loc} {cells slots : Nat} {Q : State → Prop}
variable {cc : ByteArray} {pc nL : Nat} {ls : Array Slot} {bS : Nat → Nat} {ad : List Nat}
set_option maxHeartbeats 4000000 in
theorem pm_sim_ok (hx : p.tables.exec = Jvm.exec) (hb : c.code = cc) {i : Instr} {lv lv2 lvA : pm_L} {st st2 stA : List Value} (h : pm_sim nL i lv st = some (lv2, st2)) (hd : decode cc pc = .ok (i, pm_len i)) (hl : lv_has ls nL lvA) (hv : pm_rl bS ad lv lvA) (hs : pm_rs bS ad st stA)
    (kk : ∀ (ls2 : Array Slot) (lvA2 : pm_L) (stA2 : List Value), lv_has ls2 nL lvA2 → pm_rl bS ad lv2 lvA2 → pm_rs bS ad st2 stA2 → W p l e R s m args below meth c H locs cells slots Q (F0 m (pc + pm_len i) ls2 stA2)) : W p l e R s m args below meth c H locs cells slots Q (F0 m pc ls stA) := by
  cases i
  case iconst n => cases h; exact lv_iconst hx hb hd rfl (kk ls lvA _ hl hv ⟨rfl, hs⟩)
  case bipush n => cases h; exact lv_bipush hx hb hd rfl (kk ls lvA _ hl hv ⟨rfl, hs⟩)
  case sipush n => cases h; exact lv_sipush hx hb hd rfl (kk ls lvA _ hl hv ⟨rfl, hs⟩)
  case lconst n => cases h; exact lv_lconst hx hb hd rfl (kk ls lvA _ hl hv ⟨rfl, hs⟩)
  case aconst_null => cases h; exact lv_null hx hb hd (kk ls lvA _ hl hv ⟨rfl, hs⟩)
  case iload_n k =>
    obtain ⟨x, hg, rfl, rfl⟩ := pm_ldi_ok h
    obtain ⟨w, hm, hw⟩ := hv.get hg
    rw [show w = .int x from hw] at hm
    exact lv_iload_n hx hb hd rfl (hl.2.2 _ hm) (kk ls lvA _ hl hv ⟨rfl, hs⟩)
  case iload k =>
    obtain ⟨x, hg, rfl, rfl⟩ := pm_ldi_ok h
    obtain ⟨w, hm, hw⟩ := hv.get hg
    rw [show w = .int x from hw] at hm
    exact lv_iload hx hb hd (hl.2.2 _ hm) (kk ls lvA _ hl hv ⟨rfl, hs⟩)
  case lload_n k =>
    obtain ⟨x, hg, rfl, rfl⟩ := pm_ldl_ok h
    obtain ⟨w, hm, hw⟩ := hv.get hg
    rw [show w = .long x from hw] at hm
    exact lv_lload_n hx hb hd rfl (hl.2.2 _ hm) (kk ls lvA _ hl hv ⟨rfl, hs⟩)
  case lload k =>
    obtain ⟨x, hg, rfl, rfl⟩ := pm_ldl_ok h
    obtain ⟨w, hm, hw⟩ := hv.get hg
    rw [show w = .long x from hw] at hm
    exact lv_lload hx hb hd (hl.2.2 _ hm) (kk ls lvA _ hl hv ⟨rfl, hs⟩)
  case aload_n k =>
    obtain ⟨v, hg, rfl, rfl, hc⟩ := pm_lda_ok h
    obtain ⟨w, hm, hw⟩ := hv.get hg
    rcases hc with ⟨x, rfl⟩ | rfl | ⟨x, rfl⟩
    · obtain ⟨a, ha, rfl⟩ := id hw
      exact lv_aload_n hx hb hd rfl (hl.2.2 _ hm) (kk ls lvA _ hl hv ⟨hw, hs⟩)
    · rw [show w = .null from hw] at hm
      exact lv_aload_nN hx hb hd rfl (hl.2.2 _ hm) (kk ls lvA _ hl hv ⟨rfl, hs⟩)
    · rcases (show w = .ref (bS x) ∨ (x = 5 ∧ w = .null) from hw) with hw2 | ⟨hw1, hw2⟩
      · subst hw2; exact lv_aload_n hx hb hd rfl (hl.2.2 _ hm) (kk ls lvA _ hl hv ⟨Or.inl rfl, hs⟩)
      · subst hw2; exact lv_aload_nN hx hb hd rfl (hl.2.2 _ hm) (kk ls lvA _ hl hv ⟨Or.inr ⟨hw1, rfl⟩, hs⟩)
  case aload k =>
    obtain ⟨v, hg, rfl, rfl, hc⟩ := pm_lda_ok h
    obtain ⟨w, hm, hw⟩ := hv.get hg
    rcases hc with ⟨x, rfl⟩ | rfl | ⟨x, rfl⟩
    · obtain ⟨a, ha, rfl⟩ := id hw
      exact lv_aload hx hb hd (hl.2.2 _ hm) (kk ls lvA _ hl hv ⟨hw, hs⟩)
    · rw [show w = .null from hw] at hm
      exact lv_aloadN hx hb hd (hl.2.2 _ hm) (kk ls lvA _ hl hv ⟨rfl, hs⟩)
    · rcases (show w = .ref (bS x) ∨ (x = 5 ∧ w = .null) from hw) with hw2 | ⟨hw1, hw2⟩
      · subst hw2; exact lv_aload hx hb hd (hl.2.2 _ hm) (kk ls lvA _ hl hv ⟨Or.inl rfl, hs⟩)
      · subst hw2; exact lv_aloadN hx hb hd (hl.2.2 _ hm) (kk ls lvA _ hl hv ⟨Or.inr ⟨hw1, rfl⟩, hs⟩)
  case istore_n k =>
    obtain ⟨x, r, rfl, hn, rfl, rfl⟩ := pm_sti_ok h
    obtain ⟨r', rfl, hr⟩ := pm_rs_i hs
    exact lv_istore_n hx hb hd rfl hl hn rfl (fun ls2 h2 => kk ls2 (pm_set lvA k.val (.int x)) _ (pm_lv_ins h2) (hv.set rfl) hr)
  case istore k =>
    obtain ⟨x, r, rfl, hn, rfl, rfl⟩ := pm_sti_ok h
    obtain ⟨r', rfl, hr⟩ := pm_rs_i hs
    exact lv_istore hx hb hd hl hn rfl (fun ls2 h2 => kk ls2 (pm_set lvA k (.int x)) _ (pm_lv_ins h2) (hv.set rfl) hr)
  case lstore_n k =>
    obtain ⟨x, r, rfl, hn, rfl, rfl⟩ := pm_stl_ok h
    obtain ⟨r', rfl, hr⟩ := pm_rs_l hs
    exact lv_lstore_n hx hb hd rfl hl hn rfl (fun ls2 h2 => kk ls2 (pm_set2 lvA k.val (.long x)) _ (pm_lv_ins h2) (hv.set2 rfl) hr)
  case lstore k =>
    obtain ⟨x, r, rfl, hn, rfl, rfl⟩ := pm_stl_ok h
    obtain ⟨r', rfl, hr⟩ := pm_rs_l hs
    exact lv_lstore hx hb hd hl hn rfl (fun ls2 h2 => kk ls2 (pm_set2 lvA k (.long x)) _ (pm_lv_ins h2) (hv.set2 rfl) hr)
  case astore_n k =>
    obtain ⟨v, r, rfl, hn, rfl, rfl, hc⟩ := pm_sta_ok h
    obtain ⟨w, r', rfl, hw, hr⟩ := pm_rs_cons hs
    rcases hc with ⟨x, rfl⟩ | rfl
    · obtain ⟨a, ha, rfl⟩ := id hw
      exact lv_astore_n hx hb hd rfl hl hn rfl (fun ls2 h2 => kk ls2 (pm_set lvA k.val (.ref a)) _ (pm_lv_ins h2) (hv.set hw) hr)
    · obtain rfl : w = .null := hw
      exact lv_astore_nN hx hb hd rfl hl hn rfl (fun ls2 h2 => kk ls2 (pm_set lvA k.val .null) _ (pm_lv_ins h2) (hv.set rfl) hr)
  case astore k =>
    obtain ⟨v, r, rfl, hn, rfl, rfl, hc⟩ := pm_sta_ok h
    obtain ⟨w, r', rfl, hw, hr⟩ := pm_rs_cons hs
    rcases hc with ⟨x, rfl⟩ | rfl
    · obtain ⟨a, ha, rfl⟩ := id hw
      exact lv_astore hx hb hd hl hn rfl (fun ls2 h2 => kk ls2 (pm_set lvA k (.ref a)) _ (pm_lv_ins h2) (hv.set hw) hr)
    · obtain rfl : w = .null := hw
      exact lv_astoreN hx hb hd hl hn rfl (fun ls2 h2 => kk ls2 (pm_set lvA k .null) _ (pm_lv_ins h2) (hv.set rfl) hr)
  case iinc k n =>
    obtain ⟨x, hg, hn, rfl, rfl⟩ := pm_inc_ok h
    obtain ⟨w, hm, hw⟩ := hv.get hg
    rw [show w = .int x from hw] at hm
    obtain ⟨j, hj⟩ := List.getElem?_of_mem hm
    exact lv_iinc hx hb hd hl hj rfl hn rfl (fun ls2 h2 => kk ls2 (pm_set lvA k (.int (x + Int32.ofInt n))) _ (pm_lv_ins h2) (hv.set rfl) hs)
  case iadd =>
    obtain ⟨x, y, r, rfl, rfl, rfl⟩ := pm_bi_ok h
    obtain ⟨r1, rfl, h1⟩ := pm_rs_i hs
    obtain ⟨r2, rfl, h2⟩ := pm_rs_i h1
    exact lv_iadd hx hb hd (kk ls lvA _ hl hv ⟨rfl, h2⟩)
  case isub =>
    obtain ⟨x, y, r, rfl, rfl, rfl⟩ := pm_bi_ok h
    obtain ⟨r1, rfl, h1⟩ := pm_rs_i hs
    obtain ⟨r2, rfl, h2⟩ := pm_rs_i h1
    exact lv_isub hx hb hd (kk ls lvA _ hl hv ⟨rfl, h2⟩)
  case imul =>
    obtain ⟨x, y, r, rfl, rfl, rfl⟩ := pm_bi_ok h
    obtain ⟨r1, rfl, h1⟩ := pm_rs_i hs
    obtain ⟨r2, rfl, h2⟩ := pm_rs_i h1
    exact lv_imul hx hb hd (kk ls lvA _ hl hv ⟨rfl, h2⟩)
  case iand =>
    obtain ⟨x, y, r, rfl, rfl, rfl⟩ := pm_bi_ok h
    obtain ⟨r1, rfl, h1⟩ := pm_rs_i hs
    obtain ⟨r2, rfl, h2⟩ := pm_rs_i h1
    exact lv_iand hx hb hd (kk ls lvA _ hl hv ⟨rfl, h2⟩)
  case ior =>
    obtain ⟨x, y, r, rfl, rfl, rfl⟩ := pm_bi_ok h
    obtain ⟨r1, rfl, h1⟩ := pm_rs_i hs
    obtain ⟨r2, rfl, h2⟩ := pm_rs_i h1
    exact lv_ior hx hb hd (kk ls lvA _ hl hv ⟨rfl, h2⟩)
  case ishl =>
    obtain ⟨x, y, r, rfl, rfl, rfl⟩ := pm_bi_ok h
    obtain ⟨r1, rfl, h1⟩ := pm_rs_i hs
    obtain ⟨r2, rfl, h2⟩ := pm_rs_i h1
    exact lv_ishl hx hb hd (kk ls lvA _ hl hv ⟨rfl, h2⟩)
  case ishr =>
    obtain ⟨x, y, r, rfl, rfl, rfl⟩ := pm_bi_ok h
    obtain ⟨r1, rfl, h1⟩ := pm_rs_i hs
    obtain ⟨r2, rfl, h2⟩ := pm_rs_i h1
    exact lv_ishr hx hb hd (kk ls lvA _ hl hv ⟨rfl, h2⟩)
  case iushr =>
    obtain ⟨x, y, r, rfl, rfl, rfl⟩ := pm_bi_ok h
    obtain ⟨r1, rfl, h1⟩ := pm_rs_i hs
    obtain ⟨r2, rfl, h2⟩ := pm_rs_i h1
    exact lv_iushr hx hb hd rfl (kk ls lvA _ hl hv ⟨rfl, h2⟩)
  case idiv =>
    obtain ⟨x, y, r, rfl, hy, rfl, rfl⟩ := pm_bd_ok h
    obtain ⟨r1, rfl, h1⟩ := pm_rs_i hs
    obtain ⟨r2, rfl, h2⟩ := pm_rs_i h1
    exact lv_idiv hx hb hd hy (kk ls lvA _ hl hv ⟨rfl, h2⟩)
  case irem =>
    obtain ⟨x, y, r, rfl, hy, rfl, rfl⟩ := pm_bd_ok h
    obtain ⟨r1, rfl, h1⟩ := pm_rs_i hs
    obtain ⟨r2, rfl, h2⟩ := pm_rs_i h1
    exact lv_irem hx hb hd hy (kk ls lvA _ hl hv ⟨rfl, h2⟩)
  case ineg =>
    obtain ⟨x, r, rfl, rfl, rfl⟩ := pm_ui_ok h
    obtain ⟨r1, rfl, h1⟩ := pm_rs_i hs
    exact lv_ineg hx hb hd (kk ls lvA _ hl hv ⟨rfl, h1⟩)
  case i2l =>
    obtain ⟨x, r, rfl, rfl, rfl⟩ := pm_ui_ok h
    obtain ⟨r1, rfl, h1⟩ := pm_rs_i hs
    exact lv_i2l hx hb hd rfl (kk ls lvA _ hl hv ⟨rfl, h1⟩)
  case i2c =>
    obtain ⟨x, r, rfl, rfl, rfl⟩ := pm_ui_ok h
    obtain ⟨r1, rfl, h1⟩ := pm_rs_i hs
    exact lv_i2c hx hb hd rfl (kk ls lvA _ hl hv ⟨rfl, h1⟩)
  case i2b =>
    obtain ⟨x, r, rfl, rfl, rfl⟩ := pm_ui_ok h
    obtain ⟨r1, rfl, h1⟩ := pm_rs_i hs
    exact lv_i2b hx hb hd rfl (kk ls lvA _ hl hv ⟨rfl, h1⟩)
  case l2i =>
    obtain ⟨x, r, rfl, rfl, rfl⟩ := pm_ul_ok h
    obtain ⟨r1, rfl, h1⟩ := pm_rs_l hs
    exact lv_l2i hx hb hd rfl (kk ls lvA _ hl hv ⟨rfl, h1⟩)
  case ladd =>
    obtain ⟨x, y, r, rfl, rfl, rfl⟩ := pm_bl_ok h
    obtain ⟨r1, rfl, h1⟩ := pm_rs_l hs
    obtain ⟨r2, rfl, h2⟩ := pm_rs_l h1
    exact lv_ladd hx hb hd (kk ls lvA _ hl hv ⟨rfl, h2⟩)
  case lsub =>
    obtain ⟨x, y, r, rfl, rfl, rfl⟩ := pm_bl_ok h
    obtain ⟨r1, rfl, h1⟩ := pm_rs_l hs
    obtain ⟨r2, rfl, h2⟩ := pm_rs_l h1
    exact lv_lsub hx hb hd (kk ls lvA _ hl hv ⟨rfl, h2⟩)
  case lmul =>
    obtain ⟨x, y, r, rfl, rfl, rfl⟩ := pm_bl_ok h
    obtain ⟨r1, rfl, h1⟩ := pm_rs_l hs
    obtain ⟨r2, rfl, h2⟩ := pm_rs_l h1
    exact lv_lmul hx hb hd (kk ls lvA _ hl hv ⟨rfl, h2⟩)
  case lcmp =>
    obtain ⟨x, y, r, rfl, rfl, rfl⟩ := pm_bl_ok h
    obtain ⟨r1, rfl, h1⟩ := pm_rs_l hs
    obtain ⟨r2, rfl, h2⟩ := pm_rs_l h1
    exact W.lcmp hx hb hd (kk ls lvA _ hl hv ⟨rfl, h2⟩)
  case dup =>
    replace h : pm_dup lv st = some (lv2, st2) := h
    unfold pm_dup at h
    split at h
    · split at h
      · rename_i v r hc
        cases h
        obtain ⟨w, r', rfl, hw, hr⟩ := pm_rs_cons hs
        exact lv_dup hx hb hd (hw.cat.trans hc) (kk ls lvA _ hl hv ⟨hw, hw, hr⟩)
      · cases h
    · cases h
  case pop =>
    replace h : pm_pop lv st = some (lv2, st2) := h
    unfold pm_pop at h
    split at h
    · split at h
      · rename_i v r hc
        cases h
        obtain ⟨w, r', rfl, hw, hr⟩ := pm_rs_cons hs
        exact lv_pop hx hb hd (hw.cat.trans hc) (kk ls lvA _ hl hv hr)
      · cases h
    · cases h
  case dup_x1 =>
    replace h : pm_dx1 lv st = some (lv2, st2) := h
    unfold pm_dx1 at h
    split at h
    · split at h
      · rename_i v u r hc
        cases h
        obtain ⟨w, r', rfl, hw, hr⟩ := pm_rs_cons hs
        obtain ⟨w2, r2, rfl, hw2, hr2⟩ := pm_rs_cons hr
        exact lv_dup_x1 hx hb hd (hw.cat.trans hc.1) (hw2.cat.trans hc.2) (kk ls lvA _ hl hv ⟨hw, hw2, hw, hr2⟩)
      · cases h
    · cases h
  case dup_x2 =>
    replace h : pm_dx2 lv st = some (lv2, st2) := h
    unfold pm_dx2 at h
    split at h
    · split at h
      · rename_i v u t r hc
        cases h
        obtain ⟨w, r', rfl, hw, hr⟩ := pm_rs_cons hs
        obtain ⟨w2, r2, rfl, hw2, hr2⟩ := pm_rs_cons hr
        obtain ⟨w3, r3, rfl, hw3, hr3⟩ := pm_rs_cons hr2
        exact lv_dup_x2 hx hb hd (hw.cat.trans hc.1) (hw2.cat.trans hc.2.1) (hw3.cat.trans hc.2.2) (kk ls lvA _ hl hv ⟨hw, hw2, hw3, hw, hr3⟩)
      · cases h
    · cases h
  case dup2 =>
    replace h : pm_du2 lv st = some (lv2, st2) := h
    unfold pm_du2 at h
    split at h
    · split at h
      · rename_i v u r hc
        cases h
        obtain ⟨w, r', rfl, hw, hr⟩ := pm_rs_cons hs
        obtain ⟨w2, r2, rfl, hw2, hr2⟩ := pm_rs_cons hr
        exact lv_dup2_11 hx hb hd (hw.cat.trans hc.1) (hw2.cat.trans hc.2) (kk ls lvA _ hl hv ⟨hw, hw2, hw, hw2, hr2⟩)
      · cases h
    · cases h
  all_goals exact nomatch (show (none : Option (pm_L × List Value)) = some (lv2, st2) from h)
end PMSIM
