/-! THE REFERENCE: what is laid into fresh, as lists -/
/-- the rows that a step works in: depth, pending, inner, fresh -/
def u4 (a : Nat → Int → Int) (D P q F : Int → Int) : Nat → Int → Int := fun j => if j = 5 then D else if j = 6 then P else if j = 16 then q else if j = 15 then F else a j
theorem u4_self {a : Nat → Int → Int} : u4 a (a 5) (a 6) (a 16) (a 15) = a := by
  funext j
  unfold u4
  repeat' split
  all_goals (first | rfl | (rename_i h; rw [h]) | (rename_i h _; rw [h]) | skip)
theorem u4_5 {a : Nat → Int → Int} {D P q F X : Int → Int} : updA (u4 a D P q F) 5 X = u4 a X P q F := by
  funext j
  unfold updA u4
  by_cases h : j = 5
  · rw [if_pos h, if_pos h]
  · rw [if_neg h, if_neg h, if_neg h]
theorem u4_6 {a : Nat → Int → Int} {D P q F X : Int → Int} : updA (u4 a D P q F) 6 X = u4 a D X q F := by
  funext j
  unfold updA u4
  by_cases h : j = 6
  · subst h; rfl
  · rw [if_neg h, if_neg h, if_neg h]
theorem u4_16 {a : Nat → Int → Int} {D P q F X : Int → Int} : updA (u4 a D P q F) 16 X = u4 a D P X F := by
  funext j
  unfold updA u4
  by_cases h : j = 16
  · subst h; rfl
  · rw [if_neg h, if_neg h, if_neg h]
theorem u4_15 {a : Nat → Int → Int} {D P q F X : Int → Int} : updA (u4 a D P q F) 15 X = u4 a D P q X := by
  funext j
  unfold updA u4
  by_cases h : j = 15
  · subst h; rfl
  · rw [if_neg h, if_neg h, if_neg h]
/-- l laid behind the n that F has, as far as there is room; what stands in g from i on, f of it -/
def laL : (Int → Int) → Int → List Int → (Int → Int)
  | F, _, [] => F
  | F, n, v :: l => laL (if n < 12000 then updI F n v else F) (n + 1) l
def rg (g : Int → Int) : Nat → Int → List Int
  | 0, _ => []
  | f + 1, i => g i :: rg g f (i + 1)
theorem rg_len {g : Int → Int} : ∀ {f : Nat} {i : Int}, (rg g f i).length = f := by
  intro f
  induction f with
  | zero => intro i; rfl
  | succ f ih => intro i; show (rg g f (i + 1)).length + 1 = f + 1; rw [ih]
theorem laL_app {l l' : List Int} : ∀ {F : Int → Int} {n : Int}, laL F n (l ++ l') = laL (laL F n l) (n + l.length) l' := by
  induction l with
  | nil => intro F n; show laL F n l' = laL F (n + ((0 : Nat) : Int)) l'; rw [show n + ((0 : Nat) : Int) = n by omega]
  | cons v l ih =>
    intro F n
    show laL _ (n + 1) (l ++ l') = laL (laL _ (n + 1) l) (n + ((l.length + 1 : Nat) : Int)) l'
    rw [ih, show n + 1 + (l.length : Int) = n + ((l.length + 1 : Nat) : Int) by omega]
theorem adI_la {g : Int → Int} : ∀ {f : Nat} {F : Int → Int} {n i e : Int}, (e - i).toNat = f → adI F g n i e = laL F n (rg g f i) := by
  intro f
  induction f with
  | zero => intro F n i e h; exact adI_0 (by omega)
  | succ f ih =>
    intro F n i e h
    show _ = laL (if n < 12000 then updI F n (g i) else F) (n + 1) (rg g f (i + 1))
    by_cases hn : n < 12000
    · rw [if_pos hn, ← ih (e := e) (by omega), adI_y (by omega) hn]
    · rw [if_neg hn, ← ih (e := e) (by omega), adI_n (by omega) (by omega)]
theorem laL_in {l : List Int} : ∀ {F : Int → Int} {n : Int}, (∀ j, in32 (F j)) → (∀ v, v ∈ l → in32 v) → ∀ j, in32 (laL F n l j) := by
  induction l with
  | nil => intro F n hF _ j; exact hF j
  | cons v l ih =>
    intro F n hF hl j
    refine ih ?_ (fun w hw => hl w (List.mem_cons_of_mem _ hw)) j
    intro j
    by_cases hn : n < 12000
    · rw [if_pos hn]
      unfold updI
      split
      · exact hl v List.mem_cons_self
      · exact hF j
    · rw [if_neg hn]; exact hF j
theorem M_addT {d : Nat} {A B : List va_E} {s : Nat → Int} {vl : Int64} {a : Nat → Int → Int} {nm : Nat → Int64} {Q : Option Value → List va_E → Nat → Nat → Prop} {D P q F : Int → Int} {x n : Int} (hA : A.length = 18) (h0 : 0 ≤ n) (h1 : n ≤ 1000000000) (k : Q none (mh A (updS s 28 (n + 1)) vl (u4 a D P q (laL F n [x])) nm B) 0 0) : pm_E none d pm_mm185 0 [(0, .ref 18), (1, .int (iI x))] [] (mh A (updS s 28 n) vl (u4 a D P q F) nm B) 0 0 Q := by
  refine M_add (s := updS s 28 n) (a := u4 a D P q F) hA h0 h1 (fun h => ?_) (fun h => ?_)
  · replace h : n < 12000 := h
    rw [updS_s, u4_15]
    rw [show laL F n [x] = updI F n x from (if_pos h : (if n < 12000 then updI F n x else F) = _)] at k
    exact k
  · replace h : 12000 ≤ n := h
    rw [updS_s]
    rw [show laL F n [x] = F from (if_neg (by omega) : (if n < 12000 then updI F n x else F) = _)] at k
    exact k
theorem M_addAllT {d : Nat} {A B : List va_E} {s : Nat → Int} {vl : Int64} {a : Nat → Int → Int} {nm : Nat → Int64} {Q : Option Value → List va_E → Nat → Nat → Prop} {D P q F : Int → Int} {x e n : Int} (hA : A.length = 18) (hx : 0 ≤ x) (hxe : x ≤ e) (he : e ≤ 12000) (h0 : 0 ≤ n) (h1 : n ≤ 900000000) (k : Q none (mh A (updS s 28 (n + (e - x))) vl (u4 a D P q (laL F n (rg (a 4) (e - x).toNat x))) nm B) 0 0) : pm_E none (d + 1) pm_mm184 0 [(0, .ref 18), (1, .int (iI x)), (2, .int (iI e))] [] (mh A (updS s 28 n) vl (u4 a D P q F) nm B) 0 0 Q := by
  refine M_addAll (s := updS s 28 n) (a := u4 a D P q F) hA hx hxe he h0 h1 ?_
  rw [updS_s, u4_15, adI_la rfl]
  exact k
theorem M_addMoreT {d : Nat} {A B : List va_E} {s : Nat → Int} {vl : Int64} {a : Nat → Int → Int} {nm : Nat → Int64} {Q : Option Value → List va_E → Nat → Nat → Prop} {D P q F : Int → Int} {x e m n : Int} (hA : A.length = 18) (hx : 0 ≤ x) (hxe : x ≤ e) (he : e ≤ 12000) (hb : ∀ j, x ≤ j → j < e → 0 ≤ a 4 j ∧ a 4 j ≤ 100000) (hq : ∀ j, in32 (q j)) (h0 : 0 ≤ n) (h1 : n ≤ 900000000) (k : Q none (mh A (updS s 28 (n + (e - x))) vl (u4 a D P q (laL F n (rg (rsI (a 4) q m) (e - x).toNat x))) nm B) 0 0) : pm_E none (d + 1) pm_mm187 0 [(0, .ref 18), (1, .int (iI x)), (2, .int (iI e)), (3, .int (iI m))] [] (mh A (updS s 28 n) vl (u4 a D P q F) nm B) 0 0 Q := by
  refine M_addMore (s := updS s 28 n) (a := u4 a D P q F) hA hx hxe he hb hq h0 h1 ?_
  rw [updS_s, u4_15, adI_la rfl]
  exact k
theorem M_addLessT {d : Nat} {A B : List va_E} {s : Nat → Int} {vl : Int64} {a : Nat → Int → Int} {nm : Nat → Int64} {Q : Option Value → List va_E → Nat → Nat → Prop} {D P q F : Int → Int} {x e n : Int} (hA : A.length = 18) (hx : 0 ≤ x) (hxe : x ≤ e) (he : e ≤ 12000) (hb : ∀ j, x ≤ j → j < e → 0 ≤ a 4 j ∧ a 4 j ≤ 100000) (h0 : 0 ≤ n) (h1 : n ≤ 900000000) (k : Q none (mh A (updS s 28 (n + (e - x))) vl (u4 a D P q (laL F n (rg (lsI (a 4)) (e - x).toNat x))) nm B) 0 0) : pm_E none (d + 1) pm_mm198 0 [(0, .ref 18), (1, .int (iI x)), (2, .int (iI e))] [] (mh A (updS s 28 n) vl (u4 a D P q F) nm B) 0 0 Q := by
  refine M_addLess (m := 0) (s := updS s 28 n) (a := u4 a D P q F) hA hx hxe he hb h0 h1 ?_
  rw [updS_s, u4_15, adI_la rfl]
  exact k
