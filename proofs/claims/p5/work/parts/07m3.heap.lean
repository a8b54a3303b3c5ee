/-! THE PURE MACHINE, 3: cells. A pure cell is a va_E whose array class is a number of pm_ty and whose references are places. -/
def pm_ty (t : Nat) : FieldType := match t with
  | 0 => .int
  | 1 => .boolean
  | 2 => .long
  | 3 => .object "LambdaShelf$Code"
  | _ => .byte
def pm_ro (ad : List Nat) (x y : Option Nat) : Prop := match x with
  | none => y = none
  | some k => ∃ a, ad[k]? = some a ∧ y = some a
def pm_rc (bS : Nat → Nat) (ad : List Nat) (U : State) (e e' : va_E) : Prop := match e with
  | .inl (tg, n, .inl f) => ∃ cA : ClassId, e' = .inl (cA, n, .inl f) ∧ ArrOfT U cA (pm_ty tg) ∧ va_RA U cA (pm_ty tg)
  | .inl (tg, n, .inr (.inl f)) => ∃ cA : ClassId, e' = .inl (cA, n, .inr (.inl f)) ∧ ArrOfT U cA (pm_ty tg) ∧ va_RA U cA (pm_ty tg)
  | .inl (tg, n, .inr (.inr (.inr (.inr f)))) => ∃ (cA : ClassId) (g : Nat → Option Nat), e' = .inl (cA, n, .inr (.inr (.inr (.inr g)))) ∧ (∀ j, pm_ro ad (f j) (g j)) ∧ ArrOfT U cA (pm_ty tg) ∧ va_RA U cA (pm_ty tg)
  | .inr (ci, fs) => ∃ fs' : List Value, e' = .inr (ci, fs') ∧ pm_rs bS ad fs fs'
  | _ => False
def pm_rw (bS : Nat → Nat) (ad : List Nat) (U : State) (ph : List va_E) (ws : va_W) : Prop := ws.map (fun q => q.1) = ad ∧ ph.length = ws.length ∧ ∀ (k : Nat) (e : va_E), ph[k]? = some e → ∃ (a : Nat) (e' : va_E), ws[k]? = some (a, e') ∧ pm_rc bS ad U e e'
theorem pm_ro.mono {ad ad2 : List Nat} {x y : Option Nat} (h : pm_ro ad x y) : pm_ro (ad ++ ad2) x y := by
  cases x with
  | none => exact h
  | some k => obtain ⟨a, h1, h2⟩ := h; exact ⟨a, pm_at_app h1, h2⟩
theorem pm_rc.mono {bS : Nat → Nat} {ad ad2 : List Nat} {U : State} {e e' : va_E} (h : pm_rc bS ad U e e') : pm_rc bS (ad ++ ad2) U e e' := by
  unfold pm_rc at h ⊢
  split at h
  · exact h
  · exact h
  · obtain ⟨cA, g, h1, h2, h3⟩ := h
    exact ⟨cA, g, h1, fun j => (h2 j).mono, h3⟩
  · obtain ⟨fs', h1, h2⟩ := h
    exact ⟨fs', h1, h2.mono⟩
  · exact h.elim
theorem pm_rc.moved {bS : Nat → Nat} {ad : List Nat} {u U : State} {e e' : va_E} (hvm : u.vm.Alike U.vm) (h : pm_rc bS ad u e e') : pm_rc bS ad U e e' := by
  unfold pm_rc at h ⊢
  split at h
  · obtain ⟨cA, h1, h2, h3⟩ := h
    exact ⟨cA, h1, arrOfT_moved hvm h2, h3.moved hvm⟩
  · obtain ⟨cA, h1, h2, h3⟩ := h
    exact ⟨cA, h1, arrOfT_moved hvm h2, h3.moved hvm⟩
  · obtain ⟨cA, g, h1, h4, h2, h3⟩ := h
    exact ⟨cA, g, h1, h4, arrOfT_moved hvm h2, h3.moved hvm⟩
  · exact h
  · exact h.elim
theorem pm_rw.moved {bS : Nat → Nat} {ad : List Nat} {u U : State} {ph : List va_E} {ws : va_W} (hvm : u.vm.Alike U.vm) (h : pm_rw bS ad u ph ws) : pm_rw bS ad U ph ws :=
  ⟨h.1, h.2.1, fun k e hk => by obtain ⟨a, e', h1, h2⟩ := h.2.2 k e hk; exact ⟨a, e', h1, h2.moved hvm⟩⟩
theorem pm_rw.at {bS : Nat → Nat} {ad : List Nat} {U : State} {ph : List va_E} {ws : va_W} (h : pm_rw bS ad U ph ws) {k a : Nat} {e : va_E} (hk : ph[k]? = some e) (ha : ad[k]? = some a) : ∃ e' : va_E, ws[k]? = some (a, e') ∧ pm_rc bS ad U e e' := by
  obtain ⟨a', e', h1, h2⟩ := h.2.2 k e hk
  rw [← h.1, List.getElem?_map, h1] at ha
  cases ha
  exact ⟨e', h1, h2⟩
theorem pm_rw.set {bS : Nat → Nat} {ad : List Nat} {U : State} {ph : List va_E} {ws : va_W} (h : pm_rw bS ad U ph ws) {k a : Nat} {e e0 e' : va_E} (hk : ws[k]? = some (a, e0)) (hc : pm_rc bS ad U e e') : pm_rw bS ad U (ph.set k e) (ws.set k (a, e')) := by
  refine ⟨?_, by simp [h.2.1], fun j x hj => ?_⟩
  · rw [List.map_set, h.1]
    apply List.ext_getElem?
    intro n
    rw [List.getElem?_set]
    split
    · rename_i hn
      subst hn
      have h1 : ad[k]? = some a := by rw [← h.1, List.getElem?_map, hk]; rfl
      rw [h1]
      simp [(List.getElem?_eq_some_iff.mp h1).1]
    · rfl
  · rw [List.getElem?_set] at hj
    split at hj
    · rename_i hn
      subst hn
      split at hj
      · cases hj
        exact ⟨a, e', by rw [List.getElem?_set]; simp [(List.getElem?_eq_some_iff.mp hk).1], hc⟩
      · cases hj
    · rename_i hn
      obtain ⟨a1, e1, h1, h2⟩ := h.2.2 j x hj
      exact ⟨a1, e1, by rw [List.getElem?_set, if_neg hn]; exact h1, h2⟩
theorem pm_rw.push {bS : Nat → Nat} {ad : List Nat} {U : State} {ph : List va_E} {ws : va_W} (h : pm_rw bS ad U ph ws) {q : Nat} {e e' : va_E} (hc : pm_rc bS (ad ++ [q]) U e e') : pm_rw bS (ad ++ [q]) U (ph ++ [e]) (ws ++ [(q, e')]) := by
  refine ⟨by simp [h.1], by simp [h.2.1], fun j x hj => ?_⟩
  rcases Nat.lt_or_ge j ph.length with hl | hl
  · rw [List.getElem?_append_left hl] at hj
    obtain ⟨a1, e1, h1, h2⟩ := h.2.2 j x hj
    exact ⟨a1, e1, by rw [List.getElem?_append_left (by rw [← h.2.1]; exact hl)]; exact h1, h2.mono⟩
  · rw [List.getElem?_append_right hl] at hj
    have hj0 : j = ph.length := by
      have := (List.getElem?_eq_some_iff.mp hj).1
      simp at this
      omega
    subst hj0
    rw [Nat.sub_self] at hj
    cases hj
    refine ⟨q, e', ?_, hc⟩
    rw [h.2.1, List.getElem?_append_right (Nat.le_refl _), Nat.sub_self]
    rfl
theorem pm_rw.new {bS : Nat → Nat} {ad : List Nat} {U : State} {ph : List va_E} {ws : va_W} (h : pm_rw bS ad U ph ws) (q : Nat) : (ad ++ [q])[ph.length]? = some q := by
  have hl : ad.length = ph.length := by rw [← h.1, List.length_map, h.2.1]
  rw [← hl, List.getElem?_append_right (Nat.le_refl _), Nat.sub_self]
  rfl
theorem pm_K1 {D : va_G} {cl : List vw_C} {U : State} {tys : List (ClassId × FieldType)} {cA : ClassId} {ty : FieldType} (h : va_K D cl tys U) (h1 : ArrOfT U cA ty) (h2 : va_RA U cA ty) : va_K D cl [(cA, ty)] U :=
  ⟨h.1, fun k q hk => by
    match k, hk with
    | 0, hk => cases hk; exact ⟨h1, h2⟩
    | k + 1, hk => simp at hk⟩
theorem pm_K2 {D : va_G} {cl : List vw_C} {U : State} {tys : List (ClassId × FieldType)} {cA cB : ClassId} {ty tb : FieldType} (h : va_K D cl tys U) (h1 : ArrOfT U cA ty) (h2 : va_RA U cA ty) (h3 : ArrOfT U cB tb) (h4 : va_RA U cB tb) : va_K D cl [(cA, ty), (cB, tb)] U :=
  ⟨h.1, fun k q hk => by
    match k, hk with
    | 0, hk => cases hk; exact ⟨h1, h2⟩
    | 1, hk => cases hk; exact ⟨h3, h4⟩
    | k + 2, hk => simp at hk⟩
def pm_vo (x : Option Nat) : Value := match x with
  | none => .null
  | some k => .ref k
/-- may a field of this type hold it: with no test of an int that is a variable -/
def pm_fit (ty : FieldType) (v : Value) : Bool := match ty, v with
  | .int, .int _ => true
  | .boolean, .int x => x == 0 || x == 1
  | .byte, .int x => x == 0
  | .char, .int x => x == 83 || x == 75 || x == 73 || x == 70 || x == 88
  | .long, .long _ => true
  | .object _, .null => true
  | .object _, .ref _ => true
  | .array _, .null => true
  | .array _, .ref _ => true
  | _, _ => false
theorem pm_fit_ok {bS : Nat → Nat} {ad : List Nat} {ty : FieldType} {v w : Value} (h : pm_fit ty v = true) (hv : pm_rv bS ad v w) : narrow ty w = w ∧ fits ty w = true := by
  unfold pm_fit at h
  split at h
  · obtain rfl : w = _ := hv; exact ⟨rfl, rfl⟩
  · rename_i x
    obtain rfl : w = _ := hv
    rcases (by simpa using h : x = 0 ∨ x = 1) with rfl | rfl
    · exact ⟨by decide, by decide⟩
    · exact ⟨by decide, by decide⟩
  · rename_i x
    obtain rfl : w = _ := hv
    obtain rfl : x = 0 := by simpa using h
    exact ⟨by decide, by decide⟩
  · rename_i x
    obtain rfl : w = _ := hv
    rcases (by simpa [or_assoc] using h : x = 83 ∨ x = 75 ∨ x = 73 ∨ x = 70 ∨ x = 88) with rfl | rfl | rfl | rfl | rfl
    all_goals exact ⟨by decide, by decide⟩
  · obtain rfl : w = _ := hv; exact ⟨rfl, rfl⟩
  · obtain rfl : w = _ := hv; exact ⟨rfl, rfl⟩
  · obtain ⟨a, -, rfl⟩ := hv; exact ⟨rfl, rfl⟩
  · obtain rfl : w = _ := hv; exact ⟨rfl, rfl⟩
  · obtain ⟨a, -, rfl⟩ := hv; exact ⟨rfl, rfl⟩
  · cases h
theorem pm_rs_get {bS : Nat → Nat} {ad : List Nat} {v : Value} : ∀ {a a' : List Value} {k : Nat}, pm_rs bS ad a a' → a[k]? = some v → ∃ w, a'[k]? = some w ∧ pm_rv bS ad v w
  | [], [], _, _, h => by simp at h
  | v0 :: r, w0 :: r', 0, hr, h => by simp at h; subst h; exact ⟨w0, rfl, hr.1⟩
  | v0 :: r, w0 :: r', k + 1, hr, h => by
    obtain ⟨w, h1, h2⟩ := pm_rs_get hr.2 (by simpa using h)
    exact ⟨w, by simpa using h1, h2⟩
  | [], _ :: _, _, h, _ => h.elim
  | _ :: _, [], _, h, _ => h.elim
theorem pm_rs_set {bS : Nat → Nat} {ad : List Nat} {v w : Value} (hv : pm_rv bS ad v w) : ∀ {a a' : List Value} {k : Nat}, pm_rs bS ad a a' → pm_rs bS ad (a.set k v) (a'.set k w)
  | [], [], _, _ => trivial
  | v0 :: r, w0 :: r', 0, hr => ⟨hv, hr.2⟩
  | v0 :: r, w0 :: r', k + 1, hr => ⟨hr.1, pm_rs_set hv hr.2⟩
  | [], _ :: _, _, h => h.elim
  | _ :: _, [], _, h => h.elim
/-! the two Strings, and two static fields of the JDK: retAddr 1 the Reader's String, 2 its bytes, 3 the Teller's, 4 its bytes, 5 what a static field holds -/
def pm_b5 (j : Nat) : Int32 := match j with
  | 0 => 83
  | 1 => 75
  | 2 => 73
  | 3 => 70
  | _ => 88
def pm_Zs (bS : Nat → Nat) (k : Nat) (A : Nat → Prop) (U : State) (H : Heap) : Prop := va_O "java/lang/String" (bS k) A U H ∧ va_OF "java/lang/String" "coder" "B" (.int 0) (bS k) A U H ∧ va_OF "java/lang/String" "value" "[B" (.ref (bS (k + 1))) (bS k) A U H ∧ va_T .byte (bS (k + 1)) 5 (fun j => .int (pm_b5 j)) A U H
def pm_Z (bS : Nat → Nat) (A : Nat → Prop) (U : State) (H : Heap) : Prop := (vk_R "LambdaShelf$Reader" pm_iR "SKIFX" (bS 1) U ∧ vk_R "LambdaShelf$Teller" pm_iT "SKIFX" (bS 3) U) ∧ pm_Zs bS 1 A U H ∧ pm_Zs bS 3 A U H ∧ va_Z "java/lang/String" "COMPACT_STRINGS" "Z" (.int 1) A U H ∧ (va_Z "jdk/internal/util/Preconditions" "SIOOBE_FORMATTER" "Ljava/util/function/BiFunction;" (.ref (bS 5)) A U H ∨ va_Z "jdk/internal/util/Preconditions" "SIOOBE_FORMATTER" "Ljava/util/function/BiFunction;" .null A U H)
theorem pm_Zs.moved {bS : Nat → Nat} {k : Nat} {A : Nat → Prop} {u U : State} {H : Heap} (hvm : u.vm.Alike U.vm) (h : pm_Zs bS k A u H) : pm_Zs bS k A U H :=
  ⟨h.1.moved hvm, h.2.1.moved hvm, h.2.2.1.moved hvm, h.2.2.2.moved hvm⟩
theorem pm_Zs.at {bS : Nat → Nat} {k : Nat} {A B : Nat → Prop} {U : State} {H H1 : Heap} (h : pm_Zs bS k A U H) (hq : ∀ a : Nat, a < H.size → ¬ A a → H1[a]? = H[a]?) (hAB : ∀ q, B q → A q) : pm_Zs bS k B U H1 :=
  ⟨(h.1.kept hq).narrow hAB, (h.2.1.kept hq).narrow hAB, (h.2.2.1.kept hq).narrow hAB, (h.2.2.2.kept hq).narrow hAB⟩
theorem pm_Z.warm {bS : Nat → Nat} {A : Nat → Prop} {s U : State} {H : Heap} (hW : s.WarmedH U.vm) (h : pm_Z bS A s H) : pm_Z bS A U H :=
  ⟨⟨h.1.1.warm hW, h.1.2.warm hW⟩, h.2.1.moved hW.alike, h.2.2.1.moved hW.alike, h.2.2.2.1.moved hW.alike, h.2.2.2.2.imp (fun z => z.moved hW.alike) (fun z => z.moved hW.alike)⟩
theorem pm_Z.same {bS : Nat → Nat} {A : Nat → Prop} {u U : State} {H : Heap} (hvm : u.vm = U.vm) (h : pm_Z bS A u H) : pm_Z bS A U H :=
  have e : u.vm.Alike U.vm := by rw [hvm]; exact Vm.Alike.refl _
  ⟨⟨h.1.1.same hvm.symm, h.1.2.same hvm.symm⟩, h.2.1.moved e, h.2.2.1.moved e, h.2.2.2.1.moved e, h.2.2.2.2.imp (fun z => z.moved e) (fun z => z.moved e)⟩
theorem pm_Z.at {bS : Nat → Nat} {A B : Nat → Prop} {U : State} {H H1 : Heap} (h : pm_Z bS A U H) (hq : ∀ a : Nat, a < H.size → ¬ A a → H1[a]? = H[a]?) (hAB : ∀ q, B q → A q) : pm_Z bS B U H1 :=
  ⟨h.1, h.2.1.at hq hAB, h.2.2.1.at hq hAB, (h.2.2.2.1.kept hq).narrow hAB, h.2.2.2.2.imp (fun z => (z.kept hq).narrow hAB) (fun z => (z.kept hq).narrow hAB)⟩
