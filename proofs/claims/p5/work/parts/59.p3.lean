/-! THE REFERENCE: readNumber, readName -/
section PML2
variable {scr : Option (Nat × (Nat → Int32))} {d : Nat} {T : pm_M} {pc : Nat} {lv : pm_L} {st : List Value} {ph ph1 : List va_E} {nc ns : Nat} {Q : Option Value → List va_E → Nat → Nat → Prop} {len k n : Nat} {x : Int} {g : Nat → Int64}
theorem pm_l_ald (h0 : pm_as (pm_cd T) pc = some (.laload, len)) (hk : ph[k]? = some (.inl (2, n, .inr (.inl g)))) (h1 : 0 ≤ x) (h2 : x < n) (h3 : in32 x) (kk : pm_E scr d T (pc + 1) lv (.long (g x.toNat) :: st) ph nc ns Q) : pm_E scr d T pc lv (.int (iI x) :: .ref k :: st) ph nc ns Q :=
  pm_e_rd h0 rfl rfl (by
    show ((pm_la ph k 2).bind fun w => (pm_ix (iI x) w.1).bind fun j => some (.long (w.2 j) :: st)) = _
    unfold pm_la
    rw [hk]
    show ((pm_ix (iI x) n).bind fun j => some (Value.long (g j) :: st)) = _
    rw [pm_ix_I h1 h2 h3]
    rfl) kk
theorem pm_l_ast {y : Int64} (h0 : pm_as (pm_cd T) pc = some (.lastore, len)) (hk : ph[k]? = some (.inl (2, n, .inr (.inl g)))) (h1 : 0 ≤ x) (h2 : x < n) (h3 : in32 x) (hs : ph.set k (.inl (2, n, .inr (.inl (vp_updL g x.toNat y)))) = ph1) (kk : pm_E scr d T (pc + 1) lv st ph1 nc ns Q) : pm_E scr d T pc lv (.long y :: .int (iI x) :: .ref k :: st) ph nc ns Q :=
  pm_e_wr h0 rfl rfl rfl (by
    show ((pm_la ph k 2).bind fun w => (pm_ix (iI x) w.1).bind fun j => some (st, k, (.inl (2, w.1, .inr (.inl (vp_updL w.2 j y))) : va_E))) = _
    unfold pm_la
    rw [hk]
    show ((pm_ix (iI x) n).bind fun j => some (st, k, (.inl (2, n, .inr (.inl (vp_updL g j y))) : va_E))) = _
    rw [pm_ix_I h1 h2 h3]
    rfl) hs kk
end PML2
theorem lI_i {z : Int} (h : in32 z) : (lI z).toInt32 = iI z := by
  have h6 : in64 z := ⟨by have := h.1; omega, by have := h.2; omega⟩
  rw [← Int32.toInt_inj, Int64.toInt_toInt32, lI_t h6, iI_t h]
  have := h.1; have := h.2
  rw [Int.bmod_def]
  split <;> omega
/-- how large the row may be at a place of the tape -/
def BD (b : Int → Int) (n i z : Int) : Prop := 3 * z ≤ 46 * i + 40 ∧ (i < n → 48 ≤ b i → b i ≤ 57 → 3 * z ≤ 46 * i)
theorem BD_tok {b : Int → Int} {n i z : Int} (h0 : 0 ≤ i) (h1 : i ≤ n) (hn : n ≤ 600) (h : BD b n i z) : 3 * z ≤ 46 * (tok b n i).2.2.1 + 40 ∧ ((tok b n i).1 = 2 → 3 * z ≤ 46 * (tok b n i).2.2.1) := by
  obtain ⟨t1, t2, t3, t4, t5, t6, t7⟩ := tok_facts (b := b) h0 h1 hn
  refine ⟨by have := h.1; omega, fun hk => ?_⟩
  by_cases e : (tok b n i).2.2.1 = i
  · have h7 := t7 hk
    have h6 := t6 (by omega)
    rw [e] at h7 h6 ⊢
    exact h.2 h6.2 h7.2.2.2.1 h7.2.2.2.2
  · have := h.1; omega
def frP (s : Nat → Int) (a : Nat → Int → Int) (s' : Nat → Int) (a' : Nat → Int → Int) : Prop := (∀ j, j ≠ 6 → j ≠ 9 → j ≠ 10 → j ≠ 11 → j ≠ 13 → j ≠ 14 → j ≠ 18 → j ≠ 20 → j ≠ 21 → s' j = s j) ∧ ∀ j, j ≠ 4 → j ≠ 7 → j ≠ 8 → j ≠ 9 → a' j = a j
abbrev fl (z : Int) : Prop := 0 < z ∧ z < 100
/-- behind a token: the reader's state o, the next token at i looked at -/
def NX (b : Int → Int) (n : Int) (fc : Int × Int) (o : Option PS) (i : Int) (s : Nat → Int) (a : Nat → Int → Int) (nm : Nat → Int64) (v : Int) : Prop := match o with
  | none => s 13 ≠ 0 ∧ fl (s 13) ∧ (s 13, s 14) = fc
  | some S => RL S s a nm ∧ RW (flat S.1) s a ∧ tkS b n i s v ∧ BD b n i (s 6)
theorem numc_len : ∀ {v : Nat}, (numc v).length = 2 * v + 1
  | 0 => rfl
  | v + 1 => by show (numc v).length + 1 + 1 = _; rw [numc_len]; omega
theorem numc_snoc : ∀ {v : Nat}, numc (v + 1) = (numc v).dropLast ++ [0, 11, 10]
  | 0 => rfl
  | v + 1 => by
    show 0 :: 11 :: numc (v + 1) = (0 :: 11 :: numc v).dropLast ++ [0, 11, 10]
    rw [numc_snoc]
    cases h : numc v with
    | nil =>
      have := congrArg List.length h
      rw [numc_len] at this
      simp at this
    | cons x r => rfl
theorem nP_part {L : List Lev} : nP (pPart L) = nP L := by cases L <;> rfl
theorem pAdd_ne {L : List Lev} {i : Int} (h : L ≠ []) : pAdd L i ≠ [] := by
  cases L with
  | nil => exact absurd rfl h
  | cons x r => intro z; cases z
theorem pPart_ne {L : List Lev} (h : L ≠ []) : pPart L ≠ [] := by
  cases L with
  | nil => exact absurd rfl h
  | cons x r => intro z; cases z
theorem wfL_ne {L : List Lev} (h : wfL L) : L ≠ [] := by
  cases L with
  | nil => exact h.elim
  | cons x r => intro z; cases z
set_option maxHeartbeats 4000000 in
set_option maxRecDepth 100000 in
theorem M_readNumber_l {d : Nat} {A B : List va_E} {v : Int} {nm : Nat → Int64} {Q : Option Value → List va_E → Nat → Nat → Prop} {s0 : Nat → Int} {a0 : Nat → Int → Int} (hA : A.length = 18) (hv0 : 0 ≤ v) (hv1 : v ≤ 20) : ∀ (f : Nat) (q : Int) (l : List Int) (s : Nat → Int) (a : Nat → Int → Int), 0 ≤ q → q ≤ v → (∀ j, j ≠ 6 → s j = s0 j) → (∀ j, j ≠ 4 → a j = a0 j) → RW l s a → (l.length : Int) + 2 * (v - q) ≤ 11900 → (∀ (s' : Nat → Int) (a' : Nat → Int → Int) (l' : List Int) (q' : Int), (∀ j, j ≠ 6 → s' j = s0 j) → (∀ j, j ≠ 4 → a' j = a0 j) → RW l' s' a' → l' = l ++ (numc (v - q).toNat).dropLast → pm_E none (d + 2) pm_mm158 43 [(0, .ref 18), (1, .int (iI (q')))] [] (mh A s' (lI v) a' nm B) 0 0 Q) → v - q < (f : Int) → pm_E none (d + 2) pm_mm158 16 [(0, .ref 18), (1, .int (iI q))] [] (mh A s (lI v) a nm B) 0 0 Q := by
  intro f
  induction f with
  | zero =>
    intro q l s a h0 h1 fS fA hw hl k hf
    exfalso; omega
  | succ f ih =>
    intro q l s a h0 h1 fS fA hw hl k hf
    have hw6 := hw.1
    refine pm_e_sim pm_a158_16 rfl ?_
    show pm_E _ _ _ 17 [(0, .ref 18), (1, .int (iI q))] [.int (iI q)] _ _ _ _
    refine pm_e_sim pm_a158_17 rfl ?_
    refine pm_l_top (y := lI (q)) (iI_l ⟨by omega, by omega⟩) ?_
    show pm_E _ _ _ 18 [(0, .ref 18), (1, .int (iI q))] [.long (lI q)] _ _ _ _
    refine pm_e_sim pm_a158_18 rfl ?_
    show pm_E _ _ _ 19 [(0, .ref 18), (1, .int (iI q))] [.ref 18, .long (lI q)] _ _ _ _
    refine pm_i_get pm_a158_19 rfl (mh_get (j := 0) hA rfl) rfl ?_
    show pm_E _ _ _ 22 [(0, .ref 18), (1, .int (iI q))] [.long (lI v), .long (lI q)] _ _ _ _
    refine pm_l_cmp pm_a158_22 ⟨by omega, by omega⟩ ⟨by omega, by omega⟩ (fun h_1 => ?_) (fun h_1 => ?_) (fun h_1 => ?_)
    · skip
      show pm_E _ _ _ 23 [(0, .ref 18), (1, .int (iI q))] [.int (iI (-1))] _ _ _ _
      refine pm_e_iff pm_a158_23 rfl (by decide +kernel) ?_
      show pm_E _ _ _ 26 [(0, .ref 18), (1, .int (iI q))] [] _ _ _ _
      refine pm_e_sim pm_a158_26 rfl ?_
      show pm_E _ _ _ 27 [(0, .ref 18), (1, .int (iI q))] [.ref 18] _ _ _ _
      refine pm_e_sim pm_a158_27 rfl ?_
      refine pm_e_top (y := iI 0) (by decide +kernel) ?_
      show pm_E _ _ _ 28 [(0, .ref 18), (1, .int (iI q))] [.int (iI 0), .ref 18] _ _ _ _
      refine pm_i_callv (k := 18) (T2 := pm_mm157) pm_a158_28 rfl rfl rfl (mh_get (j := 0) hA rfl) ⟨Nat.le_of_ble_eq_true rfl, Nat.le_of_ble_eq_true rfl, rfl, by decide +kernel⟩ ?_
      show pm_E none _ _ 0 [(0, .ref 18), (1, .int (iI 0))] [] _ _ _ _
      refine M_layT hA hw (by omega) ⟨by omega, by omega⟩ (fun s2 a2 gS2 gA2 hw2 u2 => ?_)
      show pm_E _ _ _ 31 [(0, .ref 18), (1, .int (iI q))] [] _ _ _ _
      refine pm_e_sim pm_a158_31 rfl ?_
      show pm_E _ _ _ 32 [(0, .ref 18), (1, .int (iI q))] [.ref 18] _ _ _ _
      refine pm_e_sim pm_a158_32 rfl ?_
      refine pm_e_top (y := iI 11) (by decide +kernel) ?_
      show pm_E _ _ _ 34 [(0, .ref 18), (1, .int (iI q))] [.int (iI 11), .ref 18] _ _ _ _
      refine pm_i_callv (k := 18) (T2 := pm_mm157) pm_a158_34 rfl rfl rfl (mh_get (j := 0) hA rfl) ⟨Nat.le_of_ble_eq_true rfl, Nat.le_of_ble_eq_true rfl, rfl, by decide +kernel⟩ ?_
      show pm_E none _ _ 0 [(0, .ref 18), (1, .int (iI 11))] [] _ _ _ _
      refine M_layT hA hw2 (by omega) ⟨by omega, by omega⟩ (fun s3 a3 gS3 gA3 hw3 u3 => ?_)
      show pm_E _ _ _ 37 [(0, .ref 18), (1, .int (iI q))] [] _ _ _ _
      refine pm_e_inc (y := iI (q + 1)) pm_a158_37 rfl (iI_add _ _) (by decide +kernel) rfl ?_
      show pm_E _ _ _ 40 [(0, .ref 18), (1, .int (iI (q + 1)))] [] _ _ _ _
      refine pm_e_goto pm_a158_40 rfl ?_
      show pm_E _ _ _ 16 [(0, .ref 18), (1, .int (iI (q + 1)))] [] _ _ _ _
      refine ih (q + 1) (l ++ [0] ++ [11]) s3 a3 (by omega) (by omega) (fun j h => by rw [gS3 j h, gS2 j h]; exact fS j h) (fun j h => by rw [gA3 j h, gA2 j h]; exact fA j h) hw3 (by simp only [List.length_append, List.length_cons, List.length_nil]; omega) ?_ (by omega)
      intro s' a' l' q' x1 x2 x3 x4
      refine k s' a' l' q' x1 x2 x3 ?_
      rw [x4, show (v - q).toNat = (v - (q + 1)).toNat + 1 by omega]
      simp only [List.append_assoc, List.cons_append, List.nil_append]
      show _ = l ++ (0 :: 11 :: numc _).dropLast
      cases h : numc (v - (q + 1)).toNat with
      | nil =>
        have := congrArg List.length h
        rw [numc_len] at this
        simp at this
      | cons y r => rfl
    · skip
      show pm_E _ _ _ 23 [(0, .ref 18), (1, .int (iI q))] [.int (iI 0)] _ _ _ _
      refine pm_e_ift pm_a158_23 rfl (by decide +kernel) ?_
      show pm_E _ _ _ 43 [(0, .ref 18), (1, .int (iI q))] [] _ _ _ _
      refine k s a l q fS fA hw ?_
      rw [show (v - q).toNat = 0 by omega]
      show l = l ++ []
      rw [List.append_nil]
    · skip
      show pm_E _ _ _ 23 [(0, .ref 18), (1, .int (iI q))] [.int (iI 1)] _ _ _ _
      refine pm_e_ift pm_a158_23 rfl (by decide +kernel) ?_
      show pm_E _ _ _ 43 [(0, .ref 18), (1, .int (iI q))] [] _ _ _ _
      refine k s a l q fS fA hw ?_
      rw [show (v - q).toNat = 0 by omega]
      show l = l ++ []
      rw [List.append_nil]
theorem numc_last : ∀ {v : Nat}, (numc v).dropLast ++ [10] = numc v
  | 0 => rfl
  | v + 1 => by
    have ih := numc_last (v := v)
    show (0 :: 11 :: numc v).dropLast ++ [10] = 0 :: 11 :: numc v
    cases h : numc v with
    | nil =>
      have := congrArg List.length h
      rw [numc_len] at this
      simp at this
    | cons x r =>
      rw [h] at ih
      show 0 :: 11 :: ((x :: r).dropLast ++ [10]) = _
      rw [ih]
theorem ex1_num {v : Int} (h : 0 ≤ v) : ex1 (1000 + v) = [1] ++ [1] ++ (numc v.toNat).dropLast ++ [10] := by
  unfold ex1
  rw [if_neg (by omega), if_pos (by omega), show 1000 + v - 1000 = v by omega, List.append_assoc, numc_last]
  rfl
theorem ex1_cell {v : Int} (h : 0 ≤ v) (h1 : v < 1000) : ex1 v = [v] := by
  unfold ex1
  rw [if_neg (by omega), if_neg (by omega)]
set_option maxHeartbeats 4000000 in
set_option maxRecDepth 100000 in
theorem M_readNumber {d : Nat} {A B : List va_E} {s : Nat → Int} {v : Int} {a : Nat → Int → Int} {nm : Nat → Int64} {Q : Option Value → List va_E → Nat → Nat → Prop} {S : PS} {i : Int} (hA : A.length = 18) (hb : ∀ j, 0 ≤ a 3 j ∧ a 3 j ≤ 255) (h4 : 0 ≤ s 4) (h5 : s 4 ≤ 600) (hi0 : 0 ≤ i) (hi1 : i ≤ s 4) (hR : RL S s a nm) (hw : RW (flat S.1) s a) (hh : S.2.2.1 = 0) (hm : S.2.2.2 = 0) (h13 : s 13 = 0) (e9 : s 9 = (tok (a 3) (s 4) i).2.2.2) (e10 : s 10 = (tok (a 3) (s 4) i).2.2.1) (ev : v = (tok (a 3) (s 4) i).2.1) (hbd : BD (a 3) (s 4) i (s 6)) (hk : (tok (a 3) (s 4) i).1 = 2) (hv1 : (tok (a 3) (s 4) i).2.2.2 - (tok (a 3) (s 4) i).2.2.1 = 1 → v ≤ 9) (k : ∀ s' v' a' nm', frP s a s' a' → (0 ≤ v' ∧ v' ≤ 282429536481) → NX (a 3) (s 4) (pft S (tok (a 3) (s 4) i).1 v, (tok (a 3) (s 4) i).2.2.1) (pst S (tok (a 3) (s 4) i).1 v) (tok (a 3) (s 4) i).2.2.2 s' a' nm' v' → Q none (mh A s' (lI v') a' nm' B) 0 0) : pm_E none (d + 2) pm_mm158 0 [(0, .ref 18)] [] (mh A s (lI v) a nm B) 0 0 Q := by
  have tf := tok_facts (b := a 3) (n := s 4) (i := i) hi0 hi1 h5
  have tv := tok_val (b := a 3) (n := s 4) (i := i) hb
  have bt := BD_tok hi0 hi1 h5 hbd
  have hw6 := hw.1
  have t7v := (tf.2.2.2.2.2.2 hk).1
  have t6v := tf.2.2.2.2.2.1 (by omega)
  have t5v := tf.2.2.2.2.1 (by omega)
  refine pm_e_sim pm_a158_0 rfl ?_
  show pm_E _ _ _ 1 [(0, .ref 18)] [.ref 18] _ _ _ _
  refine pm_i_callv (k := 18) (T2 := pm_mm156) pm_a158_1 rfl rfl rfl (mh_get (j := 0) hA rfl) ⟨Nat.le_of_ble_eq_true rfl, Nat.le_of_ble_eq_true rfl, rfl, by decide +kernel⟩ ?_
  show pm_E none _ _ 0 [(0, .ref 18)] [] _ _ _ _
  refine M_partT hA hR hw (by omega) (fun s1 a1 gS1 gA1 hR1 hw1 u1 u2 => ?_)
  show pm_E _ _ _ 4 [(0, .ref 18)] [] _ _ _ _
  refine pm_e_sim pm_a158_4 rfl ?_
  show pm_E _ _ _ 5 [(0, .ref 18)] [.ref 18] _ _ _ _
  refine pm_e_sim pm_a158_5 rfl ?_
  refine pm_e_top (y := iI 1) (by decide +kernel) ?_
  show pm_E _ _ _ 6 [(0, .ref 18)] [.int (iI 1), .ref 18] _ _ _ _
  refine pm_i_callv (k := 18) (T2 := pm_mm157) pm_a158_6 rfl rfl rfl (mh_get (j := 0) hA rfl) ⟨Nat.le_of_ble_eq_true rfl, Nat.le_of_ble_eq_true rfl, rfl, by decide +kernel⟩ ?_
  show pm_E none _ _ 0 [(0, .ref 18), (1, .int (iI 1))] [] _ _ _ _
  refine M_layT hA hw1 (by omega) ⟨by omega, by omega⟩ (fun s2 a2 gS2 gA2 hw2 u2 => ?_)
  show pm_E _ _ _ 9 [(0, .ref 18)] [] _ _ _ _
  refine pm_e_sim pm_a158_9 rfl ?_
  show pm_E _ _ _ 10 [(0, .ref 18)] [.ref 18] _ _ _ _
  refine pm_e_sim pm_a158_10 rfl ?_
  refine pm_e_top (y := iI 1) (by decide +kernel) ?_
  show pm_E _ _ _ 11 [(0, .ref 18)] [.int (iI 1), .ref 18] _ _ _ _
  refine pm_i_callv (k := 18) (T2 := pm_mm157) pm_a158_11 rfl rfl rfl (mh_get (j := 0) hA rfl) ⟨Nat.le_of_ble_eq_true rfl, Nat.le_of_ble_eq_true rfl, rfl, by decide +kernel⟩ ?_
  show pm_E none _ _ 0 [(0, .ref 18), (1, .int (iI 1))] [] _ _ _ _
  refine M_layT hA hw2 (by omega) ⟨by omega, by omega⟩ (fun s3 a3 gS3 gA3 hw3 u3 => ?_)
  show pm_E _ _ _ 14 [(0, .ref 18)] [] _ _ _ _
  refine pm_e_sim pm_a158_14 rfl ?_
  refine pm_e_top (y := iI 0) (by decide +kernel) ?_
  show pm_E _ _ _ 15 [(0, .ref 18)] [.int (iI 0)] _ _ _ _
  refine pm_e_sim pm_a158_15 rfl ?_
  show pm_E _ _ _ 16 [(0, .ref 18), (1, .int (iI 0))] [] _ _ _ _
  have hw36 := hw3.1
  refine M_readNumber_l (s0 := s3) (a0 := a3) hA (by omega) (by omega) 22 0 _ s3 a3 (by omega) (by omega) (fun j _ => rfl) (fun j _ => rfl) hw3 (by omega) ?_ (by omega)
  intro s7 a7 l7 q7 x1 x2 hw7 x4
  rw [show (v - 0).toNat = v.toNat by omega] at x4
  have hl7 : (l7.length : Int) ≤ s 6 + 3 + 2 * v := by
    rw [x4]; simp only [List.length_append, List.length_dropLast, numc_len, List.length_cons, List.length_nil]
    have := hw1.1
    omega
  have hw76 := hw7.1
  refine pm_e_sim pm_a158_43 rfl ?_
  show pm_E _ _ _ 44 [(0, .ref 18), (1, .int (iI q7))] [.ref 18] _ _ _ _
  refine pm_e_sim pm_a158_44 rfl ?_
  refine pm_e_top (y := iI 10) (by decide +kernel) ?_
  show pm_E _ _ _ 46 [(0, .ref 18), (1, .int (iI q7))] [.int (iI 10), .ref 18] _ _ _ _
  refine pm_i_callv (k := 18) (T2 := pm_mm157) pm_a158_46 rfl rfl rfl (mh_get (j := 0) hA rfl) ⟨Nat.le_of_ble_eq_true rfl, Nat.le_of_ble_eq_true rfl, rfl, by decide +kernel⟩ ?_
  show pm_E none _ _ 0 [(0, .ref 18), (1, .int (iI 10))] [] _ _ _ _
  refine M_layT hA hw7 (by omega) ⟨by omega, by omega⟩ (fun s8 a8 gS8 gA8 hw8 u8 => ?_)
  show pm_E _ _ _ 49 [(0, .ref 18), (1, .int (iI q7))] [] _ _ _ _
  refine pm_e_sim pm_a158_49 rfl ?_
  show pm_E _ _ _ 50 [(0, .ref 18), (1, .int (iI q7))] [.ref 18] _ _ _ _
  refine pm_i_callv (k := 18) (T2 := pm_mm151) pm_a158_50 rfl rfl rfl (mh_get (j := 0) hA rfl) ⟨Nat.le_of_ble_eq_true rfl, Nat.le_of_ble_eq_true rfl, rfl, by decide +kernel⟩ ?_
  show pm_E none _ _ 0 [(0, .ref 18)] [] _ _ _ _
  have fS : ∀ j, j ≠ 6 → s8 j = s j := fun j h => by rw [gS8 j h, x1 j h, gS3 j h, gS2 j h, gS1 j h]
  have fA : ∀ j, j ≠ 4 → j ≠ 8 → a8 j = a j := fun j h h2 => by rw [gA8 j h, x2 j h, gA3 j h, gA2 j h, gA1 j h h2]
  have f3 : a8 3 = a 3 := fA 3 (by omega) (by omega)
  have f4 := fS 4 (by omega)
  have f9 := fS 9 (by omega)
  have hfl : flat (pPart S.1) ++ [1] ++ [1] ++ (numc v.toNat).dropLast ++ [10] = flat (pAdd (pPart S.1) (1000 + v)) := by
    rw [flat_add (pPart_ne (wfL_ne hR.2.2.2.2.2.2.1)), ex1_num (by omega)]
    simp only [List.append_assoc]
  rw [x4, hfl] at hw8
  refine M_nextT (s := s8) (a := a8) hA (by rw [f3]; exact hb) (by rw [fS 13 (by omega)]; exact h13) (by rw [f4]; omega) (by rw [f4]; omega) (by rw [f9]; omega) (by rw [f9, f4]; omega) (fun s9 v9 g9 t9 b9 => ?_)
  rw [f3, f4, f9, e9] at t9
  show pm_E _ _ _ 53 [(0, .ref 18), (1, .int (iI q7))] [] _ _ _ _
  refine pm_e_ret pm_a158_53 rfl rfl rfl rfl rfl rfl rfl rfl ?_
  have hps : pst S (tok (a 3) (s 4) i).1 v = some (pAdd (pPart S.1) (1000 + v), S.2.1, 0, 0) := by
    unfold pst
    rw [if_pos hh, if_neg (by omega), if_pos hk]
  refine k s9 v9 a8 nm ⟨fun j q1 q2 q3 q4 q5 q6 q7 q8 q9 => by rw [g9 j q2 q3 q4 q5 q6]; exact fS j q1, fun j q1 q2 q3 q4 => fA j q1 q3⟩ b9 ?_
  rw [hps]
  have hR8 : RL (pAdd (pPart S.1) (1000 + v), S.2.1, 0, 0) s9 a8 nm := by
    have := RL_add (i := 1000 + v) (h := 0) hR1
    rw [show (pPart S.1, S.2).2.2.2 = 0 from hm] at this
    refine RL_fr this ?_ ?_ ?_ ?_ ?_ ?_
    · rw [g9 18 (by omega) (by omega) (by omega) (by omega) (by omega), gS8 18 (by omega), x1 18 (by omega), gS3 18 (by omega), gS2 18 (by omega)]
    · rw [g9 20 (by omega) (by omega) (by omega) (by omega) (by omega), gS8 20 (by omega), x1 20 (by omega), gS3 20 (by omega), gS2 20 (by omega)]
    · rw [g9 21 (by omega) (by omega) (by omega) (by omega) (by omega), gS8 21 (by omega), x1 21 (by omega), gS3 21 (by omega), gS2 21 (by omega)]
    · rw [gA8 7 (by omega), x2 7 (by omega), gA3 7 (by omega), gA2 7 (by omega)]
    · rw [gA8 8 (by omega), x2 8 (by omega), gA3 8 (by omega), gA2 8 (by omega)]
    · rw [gA8 9 (by omega), x2 9 (by omega), gA3 9 (by omega), gA2 9 (by omega)]
  have z6 : s9 6 = s8 6 := g9 6 (by omega) (by omega) (by omega) (by omega) (by omega)
  have z8 : s9 6 ≤ s 6 + 4 + 2 * v := by omega
  have t7 := tf.2.2.2.2.2.2 hk
  have t6 := tf.2.2.2.2.2.1 (by omega)
  have hv9 : (tok (a 3) (s 4) i).2.2.2 - (tok (a 3) (s 4) i).2.2.1 = 1 → v ≤ 9 := hv1
  refine ⟨hR8, ⟨by rw [z6]; exact hw8.1, hw8.2.1, hw8.2.2⟩, t9, ?_, fun z1 z2 z3 => ?_⟩
  · have := bt.2 hk; omega
  · exfalso; have := t7.2.2.1; omega
