/-! THE LAW: a turn, call by call -/
def xv (xs : Nat → Int32) (i k : Int) : Int := (xs (i + k).toNat).toInt
theorem xv_in {xs : Nat → Int32} {i k : Int} : in32 (xv xs i k) := in32_of _
theorem pm_e_lv0 {scr : Option (Nat × (Nat → Int32))} {d : Nat} {T : pm_M} {lvr : pm_L} {st : List Value} {ph : List va_E} {nc ns : Nat} {Q : Option Value → List va_E → Nat → Nat → Prop} {pl : Nat → Nat} (hp0 : pl 0 = 0) (h : pm_E scr d T 0 ((0, .ref (pl 0)) :: lvr) st ph nc ns Q) : pm_E scr d T 0 ((0, .ref 0) :: lvr) st ph nc ns Q := by
  rw [hp0] at h
  exact h
theorem cg0 {n : Nat} {kd pl : Nat → Nat} {s : Nat → Int} {a : Nat → Int → Int} {c : Nat → cdt} {M : List va_E} (hW : wf n kd pl) : (ch n kd pl s a c M)[0]? = some (.inr (8, cf0 pl s)) := by
  have h := cg_0 (s := s) (a := a) (c := c) (M := M) hW
  rw [hW.2.2.2.2.2.2] at h
  exact h
theorem sh_fr {s s' : Nat → Int} {a a' : Nat → Int → Int} {N : Int} {T : Int → List Int} (h : sh s a N T) (h0 : s' 0 = s 0) (h1 : a' 1 = a 1) (h2 : a' 2 = a 2) : sh s' a' N T := ⟨h0.trans h.1, fun t t0 t1 => by rw [h1, h2]; exact h.2 t t0 t1⟩
theorem sh_sz {s : Nat → Int} {a : Nat → Int → Int} {N : Int} {T : Int → List Int} (hok : okT N T) (h : sh s a N T) : ∀ t, 0 ≤ t → t < s 0 → 1 ≤ a 1 t ∧ a 1 t ≤ 500 := fun t t0 t1 => by
  have h0 := h.1
  obtain ⟨h1, _⟩ := h.2 t t0 (by omega)
  obtain ⟨h2, f, h3⟩ := hok.2.2 t t0 (by omega)
  have h4 : 1 ≤ (T t).length := by
    cases hT : T t with
    | nil =>
      rw [hT] at h3
      cases f with
      | zero => exact h3.elim
      | succ f =>
        rcases h3 with ⟨l1, l2, e, _⟩ | ⟨l1, e, _⟩ | ⟨v, e, _⟩ <;> cases e
    | cons v r => exact Nat.succ_le_succ (Nat.zero_le _)
  rw [h1]
  omega
theorem code_t {s1 : Nat → Int} {a1 : Nat → Int → Int} {N x i rc : Int} {T : Int → List Int} (hsh : sh s1 a1 N T) (x0 : 0 ≤ x) (x1 : x < N) (i0 : 0 ≤ i) (i1 : i < a1 1 x) (h : 0 ≤ x → x < N → 0 ≤ i → i < (T x).length → ∃ g : Int → Int, rg g (T x).length 0 = T x ∧ rc = g i) : a1 2 (500 * x + i) = rc := by
  obtain ⟨e1, e2⟩ := hsh.2 x x0 x1
  obtain ⟨g, e3, e4⟩ := h x0 x1 i0 (by omega)
  have h5 := rg_at (e2.trans e3.symm) i i0 (by omega)
  rw [e4, h5, show (0 : Int) + i = i by omega]
theorem code_f {s1 : Nat → Int} {a1 : Nat → Int → Int} {N x i rc : Int} {T : Int → List Int} (hsh : sh s1 a1 N T) (h : x < 0 ∨ s1 0 ≤ x ∨ i < 0 ∨ a1 1 x ≤ i) (h1 : (x < 0 ∨ N ≤ x) → rc = -1) (h3 : 0 ≤ x → x < N → (i < 0 ∨ (T x).length ≤ i) → rc = -1) : -1 = rc := by
  have m0 := hsh.1
  by_cases c : x < 0 ∨ N ≤ x
  · exact (h1 c).symm
  · obtain ⟨e1, _⟩ := hsh.2 x (by omega) (by omega)
    exact (h3 (by omega) (by omega) (by omega)).symm
theorem nrx_rg {l : List Int} {f : Nat} {w r r' : Int} (t : tL f 0 l) (h : ∃ g : Int → Int, rg g l.length 0 = l ∧ nrx g l.length w r) (h' : ∃ g : Int → Int, rg g l.length 0 = l ∧ nrx g l.length w r') : r = r' := by
  obtain ⟨g, hg, h⟩ := h
  obtain ⟨g', hg', h'⟩ := h'
  exact nrx_one (nrx_eq (tL_tm0 t hg) (rg_same hg hg') h) h'
theorem nbR_rg {l : List Int} {f : Nat} {r r' : Int} (t : tL f 0 l) (h : ∃ g : Int → Int, rg g l.length 0 = l ∧ nbR g l.length r) (h' : ∃ g : Int → Int, rg g l.length 0 = l ∧ nbR g l.length r') : r = r' := by
  obtain ⟨g, hg, h⟩ := h
  obtain ⟨g', hg', h'⟩ := h'
  exact nbR_one (tL_tm0 t hg) (rg_same hg hg') h h'
theorem cnt_cg {g g' : Int → Int} {sz : Int} (h : ∀ p, 0 ≤ p → p < sz → rdx g' p = rdx g p) : ∀ (f : Nat) (p n : Int), 0 ≤ p → cnt g' sz f p n = cnt g sz f p n := by
  intro f
  induction f with
  | zero => intro p n _; rfl
  | succ f ih =>
    intro p n h0
    by_cases hc : sz ≤ p
    · rw [cnt_e hc, cnt_e hc]
    · rw [cnt_s (by omega) rfl, cnt_s (by omega) rfl, h p h0 (by omega)]
      exact ih _ _ (by omega)
theorem cnt_rg {s1 : Nat → Int} {a1 : Nat → Int → Int} {N x rc : Int} {T : Int → List Int} {f : Nat} (t : tL f 0 (T x)) (hsh : sh s1 a1 N T) (x0 : 0 ≤ x) (x1 : x < N) (h : ∃ g : Int → Int, rg g (T x).length 0 = T x ∧ rc = cnt g (T x).length (T x).length 0 0) : cnt (cpI (a1 4) (a1 2) (500 * x) 0 (a1 1 x)) (a1 1 x) (a1 1 x).toNat 0 0 = rc := by
  obtain ⟨g, hg, h⟩ := h
  have hk := sh_take hsh x0 x1
  obtain ⟨e1, _⟩ := hsh.2 x x0 x1
  rw [h, show (a1 1 x).toNat = (T x).length by omega]
  generalize cpI (a1 4) (a1 2) (500 * x) 0 (a1 1 x) = g' at hk ⊢
  rw [e1]
  have tg := tL_tm0 t hg
  refine cnt_cg (fun p p0 p1 => ?_) _ _ _ (by omega)
  obtain ⟨f2, k2, e2, t2, h2, _⟩ := tm_sub tg p p0 p1
  exact rdx_eq t2 (fun j z y => rg_same hg hk j (by omega) (by omega))
theorem suI_cg {g g' : Int → Int} {N : Int} (h : ∀ t, 0 ≤ t → t < N → g t = g' t) : ∀ (f : Nat) (i n : Int), 0 ≤ i → i + f ≤ N → suI g f i n = suI g' f i n := by
  intro f
  induction f with
  | zero => intro i n _ _; rfl
  | succ f ih =>
    intro i n h0 h1
    show suI g f (i + 1) (n + g i) = suI g' f (i + 1) (n + g' i)
    rw [h i h0 (by omega)]
    exact ih _ _ (by omega) (by omega)
theorem same_t {s1 : Nat → Int} {a1 : Nat → Int → Int} {N x u : Int} {T : Int → List Int} (hsh : sh s1 a1 N T) (x0 : 0 ≤ x) (x1 : x < N) (u0 : 0 ≤ u) (u1 : u < N) (hp : a1 1 x = a1 1 u ∧ ∀ q, 0 ≤ q → q < a1 1 x → a1 2 (500 * x + q) = a1 2 (500 * u + q)) : T x = T u := by
  obtain ⟨e1, e2⟩ := hsh.2 x x0 x1
  obtain ⟨e3, e4⟩ := hsh.2 u u0 u1
  obtain ⟨p1, p2⟩ := hp
  have hl : (T x).length = (T u).length := by omega
  have h := rg_congr (g := a1 2) (g' := a1 2) (n := (T x).length) (p := 500 * x) (o := 500 * u - 500 * x) (fun j z y => by
    have h5 := p2 (j - 500 * x) (by omega) (by omega)
    rw [show 500 * x + (j - 500 * x) = j by omega, show 500 * u + (j - 500 * x) = j + (500 * u - 500 * x) by omega] at h5
    exact h5.symm)
  rw [show 500 * x + (500 * u - 500 * x) = 500 * u by omega] at h
  calc T x = rg (a1 2) (T x).length (500 * x) := e2.symm
    _ = rg (a1 2) (T x).length (500 * u) := h.symm
    _ = rg (a1 2) (T u).length (500 * u) := by rw [hl]
    _ = T u := e4
theorem same_f {s1 : Nat → Int} {a1 : Nat → Int → Int} {N x u : Int} {T : Int → List Int} (hsh : sh s1 a1 N T) (x0 : 0 ≤ x) (x1 : x < N) (u0 : 0 ≤ u) (u1 : u < N) (e : T x = T u) : a1 1 x = a1 1 u ∧ ∀ q, 0 ≤ q → q < a1 1 x → a1 2 (500 * x + q) = a1 2 (500 * u + q) := by
  obtain ⟨e1, e2⟩ := hsh.2 x x0 x1
  obtain ⟨e3, e4⟩ := hsh.2 u u0 u1
  rw [e] at e1 e2
  exact ⟨by omega, fun q q0 q1 => rg_at (e2.trans e4.symm) q q0 (by omega)⟩
set_option maxHeartbeats 4000000 in
set_option maxRecDepth 100000 in
theorem LM_fault {L : Nat} {xs : Nat → Int32} {t n nc ns : Nat} {kd pl : Nat → Nat} {s : Nat → Int} {a : Nat → Int → Int} {c : Nat → cdt} {s1 : Nat → Int} {v1 : Int64} {a1 : Nat → Int → Int} {nm : Nat → Int64} {N i : Int} {T : Int → List Int} {Q : Option Value → List va_E → Nat → Nat → Prop} {rc : Int} (hi0 : 0 ≤ i) (hi6 : i + 6 ≤ L) (hL : L ≤ 3072) (hok : okT N T) (hc : cI n kd pl s a c N T) (hm : mI s a s1 a1 N T) (hin1 : ∀ i j, in32 (a1 i j)) (hnc : nc ≤ 50 + 12 * (t + 1)) (hns : ns ≤ 194358 + 503 * (t + 1) + wt pl) (hrc : rc = s 1) (k : ∀ n' kd' pl' s' a' c' s1' v1' a1' nm' nc' ns', LI (t + 1) n' kd' pl' s' a' c' s1' a1' nc' ns' → pm_E (some (L, xs)) 11 pm_mm0 779 [(0, .retAddr 0), (1, .ref 0), (2, .ref 18), (3, .int (iI i))] [] (ch n' kd' pl' s' a' c' (mc s1' v1' a1' nm')) nc' ns' Q) : pm_E (some (L, xs)) 11 pm_mm0 243 [(0, .retAddr 0), (1, .ref 0), (2, .ref 18), (3, .int (iI i))] [.int (iI rc)] (ch n kd pl s a c (mc s1 v1 a1 nm)) nc ns Q := by
  obtain ⟨⟨hW, hn50, hq50⟩, hS, hf, ⟨h4, h4'⟩, hb, ⟨ho0, ho1⟩, ⟨h14, h14'⟩, hA, hY⟩ := id hc
  have hp0 : pl 0 = 0 := hW.2.2.2.2.2.2
  obtain ⟨hsh, m4, m3, m45, m45', mt⟩ := id hm
  obtain ⟨hN0, hN32, hT⟩ := id hok
  have s0 : s 0 = N := hS.1
  have m0 : s1 0 = N := hsh.1
  refine pm_e_sim pm_a0_243 rfl ?_
  show pm_E _ _ _ 244 [(0, .retAddr 0), (1, .ref 0), (2, .ref 18), (3, .int (iI i))] [.ref 18, .int (iI rc)] _ _ _ _
  rw [ch_mh hW hn50 hq50]
  refine pm_i_callv (k := 18) (T2 := pm_mm163) pm_a0_244 rfl rfl rfl (mh_get (j := 0) kA18_len rfl) ⟨Nat.le_of_ble_eq_true rfl, Nat.le_of_ble_eq_true rfl, rfl, by decide +kernel⟩ ?_
  show pm_E none _ _ 0 [(0, .ref 18)] [] _ _ _ _
  refine M_fault kA18_len ?_
  · skip
    rw [← ch_mh hW hn50 hq50]
    show pm_E _ _ _ 247 [(0, .retAddr 0), (1, .ref 0), (2, .ref 18), (3, .int (iI i))] [.int (iI (s1 13)), .int (iI rc)] _ _ _ _
    refine pm_e_top (y := iI rc) (congrArg iI (show (s1 13) = rc from (mt.2.1.trans hrc.symm))) ?_
    refine pm_e_ict pm_a0_247 rfl (pm_z_eq_t _ rfl rfl) ?_
    show pm_E _ _ _ 779 [(0, .retAddr 0), (1, .ref 0), (2, .ref 18), (3, .int (iI i))] [] _ _ _ _
    exact k _ _ _ _ _ _ _ _ _ _ _ _ ⟨N, T, hok, hc, hm, by omega, by omega⟩
set_option maxHeartbeats 4000000 in
set_option maxRecDepth 100000 in
theorem LM_size {L : Nat} {xs : Nat → Int32} {t n nc ns : Nat} {kd pl : Nat → Nat} {s : Nat → Int} {a : Nat → Int → Int} {c : Nat → cdt} {s1 : Nat → Int} {v1 : Int64} {a1 : Nat → Int → Int} {nm : Nat → Int64} {N i : Int} {T : Int → List Int} {Q : Option Value → List va_E → Nat → Nat → Prop} (hi0 : 0 ≤ i) (hi6 : i + 6 ≤ L) (hL : L ≤ 3072) (hok : okT N T) (hc : cI n kd pl s a c N T) (hm : mI s a s1 a1 N T) (hin1 : ∀ i j, in32 (a1 i j)) (hnc : nc ≤ 50 + 12 * (t + 1)) (hns : ns ≤ 194358 + 503 * (t + 1) + wt pl) (k : ∀ n' kd' pl' s' a' c' s1' v1' a1' nm' nc' ns', LI (t + 1) n' kd' pl' s' a' c' s1' a1' nc' ns' → pm_E (some (L, xs)) 11 pm_mm0 779 [(0, .retAddr 0), (1, .ref 0), (2, .ref 18), (3, .int (iI i))] [] (ch n' kd' pl' s' a' c' (mc s1' v1' a1' nm')) nc' ns' Q) : pm_E (some (L, xs)) 11 pm_mm0 262 [(0, .retAddr 0), (1, .ref 0), (2, .ref 18), (3, .int (iI i))] [] (ch n kd pl s a c (mc s1 v1 a1 nm)) nc ns Q := by
  obtain ⟨⟨hW, hn50, hq50⟩, hS, hf, ⟨h4, h4'⟩, hb, ⟨ho0, ho1⟩, ⟨h14, h14'⟩, hA, hY⟩ := id hc
  have hp0 : pl 0 = 0 := hW.2.2.2.2.2.2
  obtain ⟨hsh, m4, m3, m45, m45', mt⟩ := id hm
  obtain ⟨hN0, hN32, hT⟩ := id hok
  have s0 : s 0 = N := hS.1
  have m0 : s1 0 = N := hsh.1
  refine pm_e_sim pm_a0_262 rfl ?_
  show pm_E _ _ _ 263 [(0, .retAddr 0), (1, .ref 0), (2, .ref 18), (3, .int (iI i))] [.ref 18] _ _ _ _
  refine pm_e_sim pm_a0_263 rfl ?_
  show pm_E _ _ _ 264 [(0, .retAddr 0), (1, .ref 0), (2, .ref 18), (3, .int (iI i))] [.retAddr 0, .ref 18] _ _ _ _
  refine pm_e_sim pm_a0_264 rfl ?_
  show pm_E _ _ _ 265 [(0, .retAddr 0), (1, .ref 0), (2, .ref 18), (3, .int (iI i))] [.int (iI i), .retAddr 0, .ref 18] _ _ _ _
  refine pm_e_sim pm_a0_265 rfl ?_
  refine pm_e_top (y := iI 1) (by decide +kernel) ?_
  show pm_E _ _ _ 266 [(0, .retAddr 0), (1, .ref 0), (2, .ref 18), (3, .int (iI i))] [.int (iI 1), .int (iI i), .retAddr 0, .ref 18] _ _ _ _
  refine pm_e_sim pm_a0_266 rfl ?_
  refine pm_e_top (y := iI (i + 1)) (iI_add _ _) ?_
  show pm_E _ _ _ 267 [(0, .retAddr 0), (1, .ref 0), (2, .ref 18), (3, .int (iI i))] [.int (iI (i + 1)), .retAddr 0, .ref 18] _ _ _ _
  refine pm_e_sld (j := (i + 1).toNat) pm_a0_267 (pm_ix_I (by omega) (by omega) ⟨by omega, by omega⟩) ?_
  refine pm_e_top (y := iI (xv xs i 1)) (iI_of _).symm ?_
  show pm_E _ _ _ 268 [(0, .retAddr 0), (1, .ref 0), (2, .ref 18), (3, .int (iI i))] [.int (iI (xv xs i 1)), .ref 18] _ _ _ _
  rw [ch_mh hW hn50 hq50]
  refine pm_i_callv (k := 18) (T2 := pm_mm164) pm_a0_268 rfl rfl rfl (mh_get (j := 0) kA18_len rfl) ⟨Nat.le_of_ble_eq_true rfl, Nat.le_of_ble_eq_true rfl, rfl, by decide +kernel⟩ ?_
  show pm_E none _ _ 0 [(0, .ref 18), (1, .int (iI (xv xs i 1)))] [] _ _ _ _
  refine M_size kA18_len xv_in (by omega) (by omega) (fun _ _ => ?_) (fun _ => ?_)
  · skip
    rw [← ch_mh hW hn50 hq50]
    show pm_E _ _ _ 271 [(0, .retAddr 0), (1, .ref 0), (2, .ref 18), (3, .int (iI i))] [.int (iI (a1 1 (xv xs i 1)))] _ _ _ _
    refine pm_e_sim pm_a0_271 rfl ?_
    show pm_E _ _ _ 272 [(0, .retAddr 0), (1, .ref 0), (2, .ref 18), (3, .int (iI i))] [] _ _ _ _
    refine pm_e_goto pm_a0_272 rfl ?_
    show pm_E _ _ _ 779 [(0, .retAddr 0), (1, .ref 0), (2, .ref 18), (3, .int (iI i))] [] _ _ _ _
    exact k _ _ _ _ _ _ _ _ _ _ _ _ ⟨N, T, hok, hc, hm, by omega, by omega⟩
  · skip
    rw [← ch_mh hW hn50 hq50]
    show pm_E _ _ _ 271 [(0, .retAddr 0), (1, .ref 0), (2, .ref 18), (3, .int (iI i))] [.int (iI (-1))] _ _ _ _
    refine pm_e_sim pm_a0_271 rfl ?_
    show pm_E _ _ _ 272 [(0, .retAddr 0), (1, .ref 0), (2, .ref 18), (3, .int (iI i))] [] _ _ _ _
    refine pm_e_goto pm_a0_272 rfl ?_
    show pm_E _ _ _ 779 [(0, .retAddr 0), (1, .ref 0), (2, .ref 18), (3, .int (iI i))] [] _ _ _ _
    exact k _ _ _ _ _ _ _ _ _ _ _ _ ⟨N, T, hok, hc, hm, by omega, by omega⟩
set_option maxHeartbeats 4000000 in
set_option maxRecDepth 100000 in
theorem LM_code {L : Nat} {xs : Nat → Int32} {t n nc ns : Nat} {kd pl : Nat → Nat} {s : Nat → Int} {a : Nat → Int → Int} {c : Nat → cdt} {s1 : Nat → Int} {v1 : Int64} {a1 : Nat → Int → Int} {nm : Nat → Int64} {N i : Int} {T : Int → List Int} {Q : Option Value → List va_E → Nat → Nat → Prop} (hi0 : 0 ≤ i) (hi6 : i + 6 ≤ L) (hL : L ≤ 3072) (hok : okT N T) (hc : cI n kd pl s a c N T) (hm : mI s a s1 a1 N T) (hin1 : ∀ i j, in32 (a1 i j)) (hnc : nc ≤ 50 + 12 * (t + 1)) (hns : ns ≤ 194358 + 503 * (t + 1) + wt pl) (k : ∀ n' kd' pl' s' a' c' s1' v1' a1' nm' nc' ns', LI (t + 1) n' kd' pl' s' a' c' s1' a1' nc' ns' → pm_E (some (L, xs)) 11 pm_mm0 779 [(0, .retAddr 0), (1, .ref 0), (2, .ref 18), (3, .int (iI i))] [] (ch n' kd' pl' s' a' c' (mc s1' v1' a1' nm')) nc' ns' Q) : pm_E (some (L, xs)) 11 pm_mm0 290 [(0, .retAddr 0), (1, .ref 0), (2, .ref 18), (3, .int (iI i))] [] (ch n kd pl s a c (mc s1 v1 a1 nm)) nc ns Q := by
  obtain ⟨⟨hW, hn50, hq50⟩, hS, hf, ⟨h4, h4'⟩, hb, ⟨ho0, ho1⟩, ⟨h14, h14'⟩, hA, hY⟩ := id hc
  have hp0 : pl 0 = 0 := hW.2.2.2.2.2.2
  obtain ⟨hsh, m4, m3, m45, m45', mt⟩ := id hm
  obtain ⟨hN0, hN32, hT⟩ := id hok
  have s0 : s 0 = N := hS.1
  have m0 : s1 0 = N := hsh.1
  refine pm_e_sim pm_a0_290 rfl ?_
  show pm_E _ _ _ 291 [(0, .retAddr 0), (1, .ref 0), (2, .ref 18), (3, .int (iI i))] [.ref 18] _ _ _ _
  refine pm_e_sim pm_a0_291 rfl ?_
  show pm_E _ _ _ 292 [(0, .retAddr 0), (1, .ref 0), (2, .ref 18), (3, .int (iI i))] [.retAddr 0, .ref 18] _ _ _ _
  refine pm_e_sim pm_a0_292 rfl ?_
  show pm_E _ _ _ 293 [(0, .retAddr 0), (1, .ref 0), (2, .ref 18), (3, .int (iI i))] [.int (iI i), .retAddr 0, .ref 18] _ _ _ _
  refine pm_e_sim pm_a0_293 rfl ?_
  refine pm_e_top (y := iI 1) (by decide +kernel) ?_
  show pm_E _ _ _ 294 [(0, .retAddr 0), (1, .ref 0), (2, .ref 18), (3, .int (iI i))] [.int (iI 1), .int (iI i), .retAddr 0, .ref 18] _ _ _ _
  refine pm_e_sim pm_a0_294 rfl ?_
  refine pm_e_top (y := iI (i + 1)) (iI_add _ _) ?_
  show pm_E _ _ _ 295 [(0, .retAddr 0), (1, .ref 0), (2, .ref 18), (3, .int (iI i))] [.int (iI (i + 1)), .retAddr 0, .ref 18] _ _ _ _
  refine pm_e_sld (j := (i + 1).toNat) pm_a0_295 (pm_ix_I (by omega) (by omega) ⟨by omega, by omega⟩) ?_
  refine pm_e_top (y := iI (xv xs i 1)) (iI_of _).symm ?_
  show pm_E _ _ _ 296 [(0, .retAddr 0), (1, .ref 0), (2, .ref 18), (3, .int (iI i))] [.int (iI (xv xs i 1)), .ref 18] _ _ _ _
  refine pm_e_sim pm_a0_296 rfl ?_
  show pm_E _ _ _ 297 [(0, .retAddr 0), (1, .ref 0), (2, .ref 18), (3, .int (iI i))] [.retAddr 0, .int (iI (xv xs i 1)), .ref 18] _ _ _ _
  refine pm_e_sim pm_a0_297 rfl ?_
  show pm_E _ _ _ 298 [(0, .retAddr 0), (1, .ref 0), (2, .ref 18), (3, .int (iI i))] [.int (iI i), .retAddr 0, .int (iI (xv xs i 1)), .ref 18] _ _ _ _
  refine pm_e_sim pm_a0_298 rfl ?_
  refine pm_e_top (y := iI 2) (by decide +kernel) ?_
  show pm_E _ _ _ 299 [(0, .retAddr 0), (1, .ref 0), (2, .ref 18), (3, .int (iI i))] [.int (iI 2), .int (iI i), .retAddr 0, .int (iI (xv xs i 1)), .ref 18] _ _ _ _
  refine pm_e_sim pm_a0_299 rfl ?_
  refine pm_e_top (y := iI (i + 2)) (iI_add _ _) ?_
  show pm_E _ _ _ 300 [(0, .retAddr 0), (1, .ref 0), (2, .ref 18), (3, .int (iI i))] [.int (iI (i + 2)), .retAddr 0, .int (iI (xv xs i 1)), .ref 18] _ _ _ _
  refine pm_e_sld (j := (i + 2).toNat) pm_a0_300 (pm_ix_I (by omega) (by omega) ⟨by omega, by omega⟩) ?_
  refine pm_e_top (y := iI (xv xs i 2)) (iI_of _).symm ?_
  show pm_E _ _ _ 301 [(0, .retAddr 0), (1, .ref 0), (2, .ref 18), (3, .int (iI i))] [.int (iI (xv xs i 2)), .int (iI (xv xs i 1)), .ref 18] _ _ _ _
  rw [ch_mh hW hn50 hq50]
  refine pm_i_callv (k := 18) (T2 := pm_mm166) pm_a0_301 rfl rfl rfl (mh_get (j := 0) kA18_len rfl) ⟨Nat.le_of_ble_eq_true rfl, Nat.le_of_ble_eq_true rfl, rfl, by decide +kernel⟩ ?_
  show pm_E none _ _ 0 [(0, .ref 18), (1, .int (iI (xv xs i 1))), (2, .int (iI (xv xs i 2)))] [] _ _ _ _
  refine M_code kA18_len xv_in xv_in (by omega) (by omega) (sh_sz hok hsh) (fun x0 x1 y0 y1 => ?_) (fun y9 => ?_)
  · skip
    rw [← ch_mh hW hn50 hq50]
    show pm_E _ _ _ 304 [(0, .retAddr 0), (1, .ref 0), (2, .ref 18), (3, .int (iI i))] [.int (iI (a1 2 (500 * xv xs i 1 + xv xs i 2)))] _ _ _ _
    refine pm_e_sim pm_a0_304 rfl ?_
    show pm_E _ _ _ 305 [(0, .retAddr 0), (1, .ref 0), (2, .ref 18), (3, .int (iI i))] [] _ _ _ _
    refine pm_e_goto pm_a0_305 rfl ?_
    show pm_E _ _ _ 779 [(0, .retAddr 0), (1, .ref 0), (2, .ref 18), (3, .int (iI i))] [] _ _ _ _
    exact k _ _ _ _ _ _ _ _ _ _ _ _ ⟨N, T, hok, hc, hm, by omega, by omega⟩
  · skip
    rw [← ch_mh hW hn50 hq50]
    show pm_E _ _ _ 304 [(0, .retAddr 0), (1, .ref 0), (2, .ref 18), (3, .int (iI i))] [.int (iI (-1))] _ _ _ _
    refine pm_e_sim pm_a0_304 rfl ?_
    show pm_E _ _ _ 305 [(0, .retAddr 0), (1, .ref 0), (2, .ref 18), (3, .int (iI i))] [] _ _ _ _
    refine pm_e_goto pm_a0_305 rfl ?_
    show pm_E _ _ _ 779 [(0, .retAddr 0), (1, .ref 0), (2, .ref 18), (3, .int (iI i))] [] _ _ _ _
    exact k _ _ _ _ _ _ _ _ _ _ _ _ ⟨N, T, hok, hc, hm, by omega, by omega⟩
set_option maxHeartbeats 4000000 in
set_option maxRecDepth 100000 in
theorem LM_same {L : Nat} {xs : Nat → Int32} {t n nc ns : Nat} {kd pl : Nat → Nat} {s : Nat → Int} {a : Nat → Int → Int} {c : Nat → cdt} {s1 : Nat → Int} {v1 : Int64} {a1 : Nat → Int → Int} {nm : Nat → Int64} {N i : Int} {T : Int → List Int} {Q : Option Value → List va_E → Nat → Nat → Prop} (hi0 : 0 ≤ i) (hi6 : i + 6 ≤ L) (hL : L ≤ 3072) (hok : okT N T) (hc : cI n kd pl s a c N T) (hm : mI s a s1 a1 N T) (hin1 : ∀ i j, in32 (a1 i j)) (hnc : nc ≤ 50 + 12 * (t + 1)) (hns : ns ≤ 194358 + 503 * (t + 1) + wt pl) (k : ∀ n' kd' pl' s' a' c' s1' v1' a1' nm' nc' ns', LI (t + 1) n' kd' pl' s' a' c' s1' a1' nc' ns' → pm_E (some (L, xs)) 11 pm_mm0 779 [(0, .retAddr 0), (1, .ref 0), (2, .ref 18), (3, .int (iI i))] [] (ch n' kd' pl' s' a' c' (mc s1' v1' a1' nm')) nc' ns' Q) : pm_E (some (L, xs)) 11 pm_mm0 412 [(0, .retAddr 0), (1, .ref 0), (2, .ref 18), (3, .int (iI i))] [] (ch n kd pl s a c (mc s1 v1 a1 nm)) nc ns Q := by
  obtain ⟨⟨hW, hn50, hq50⟩, hS, hf, ⟨h4, h4'⟩, hb, ⟨ho0, ho1⟩, ⟨h14, h14'⟩, hA, hY⟩ := id hc
  have hp0 : pl 0 = 0 := hW.2.2.2.2.2.2
  obtain ⟨hsh, m4, m3, m45, m45', mt⟩ := id hm
  obtain ⟨hN0, hN32, hT⟩ := id hok
  have s0 : s 0 = N := hS.1
  have m0 : s1 0 = N := hsh.1
  refine pm_e_sim pm_a0_412 rfl ?_
  show pm_E _ _ _ 413 [(0, .retAddr 0), (1, .ref 0), (2, .ref 18), (3, .int (iI i))] [.ref 18] _ _ _ _
  refine pm_e_sim pm_a0_413 rfl ?_
  show pm_E _ _ _ 414 [(0, .retAddr 0), (1, .ref 0), (2, .ref 18), (3, .int (iI i))] [.retAddr 0, .ref 18] _ _ _ _
  refine pm_e_sim pm_a0_414 rfl ?_
  show pm_E _ _ _ 415 [(0, .retAddr 0), (1, .ref 0), (2, .ref 18), (3, .int (iI i))] [.int (iI i), .retAddr 0, .ref 18] _ _ _ _
  refine pm_e_sim pm_a0_415 rfl ?_
  refine pm_e_top (y := iI 1) (by decide +kernel) ?_
  show pm_E _ _ _ 416 [(0, .retAddr 0), (1, .ref 0), (2, .ref 18), (3, .int (iI i))] [.int (iI 1), .int (iI i), .retAddr 0, .ref 18] _ _ _ _
  refine pm_e_sim pm_a0_416 rfl ?_
  refine pm_e_top (y := iI (i + 1)) (iI_add _ _) ?_
  show pm_E _ _ _ 417 [(0, .retAddr 0), (1, .ref 0), (2, .ref 18), (3, .int (iI i))] [.int (iI (i + 1)), .retAddr 0, .ref 18] _ _ _ _
  refine pm_e_sld (j := (i + 1).toNat) pm_a0_417 (pm_ix_I (by omega) (by omega) ⟨by omega, by omega⟩) ?_
  refine pm_e_top (y := iI (xv xs i 1)) (iI_of _).symm ?_
  show pm_E _ _ _ 418 [(0, .retAddr 0), (1, .ref 0), (2, .ref 18), (3, .int (iI i))] [.int (iI (xv xs i 1)), .ref 18] _ _ _ _
  refine pm_e_sim pm_a0_418 rfl ?_
  show pm_E _ _ _ 419 [(0, .retAddr 0), (1, .ref 0), (2, .ref 18), (3, .int (iI i))] [.retAddr 0, .int (iI (xv xs i 1)), .ref 18] _ _ _ _
  refine pm_e_sim pm_a0_419 rfl ?_
  show pm_E _ _ _ 420 [(0, .retAddr 0), (1, .ref 0), (2, .ref 18), (3, .int (iI i))] [.int (iI i), .retAddr 0, .int (iI (xv xs i 1)), .ref 18] _ _ _ _
  refine pm_e_sim pm_a0_420 rfl ?_
  refine pm_e_top (y := iI 2) (by decide +kernel) ?_
  show pm_E _ _ _ 421 [(0, .retAddr 0), (1, .ref 0), (2, .ref 18), (3, .int (iI i))] [.int (iI 2), .int (iI i), .retAddr 0, .int (iI (xv xs i 1)), .ref 18] _ _ _ _
  refine pm_e_sim pm_a0_421 rfl ?_
  refine pm_e_top (y := iI (i + 2)) (iI_add _ _) ?_
  show pm_E _ _ _ 422 [(0, .retAddr 0), (1, .ref 0), (2, .ref 18), (3, .int (iI i))] [.int (iI (i + 2)), .retAddr 0, .int (iI (xv xs i 1)), .ref 18] _ _ _ _
  refine pm_e_sld (j := (i + 2).toNat) pm_a0_422 (pm_ix_I (by omega) (by omega) ⟨by omega, by omega⟩) ?_
  refine pm_e_top (y := iI (xv xs i 2)) (iI_of _).symm ?_
  show pm_E _ _ _ 423 [(0, .retAddr 0), (1, .ref 0), (2, .ref 18), (3, .int (iI i))] [.int (iI (xv xs i 2)), .int (iI (xv xs i 1)), .ref 18] _ _ _ _
  rw [ch_mh hW hn50 hq50]
  refine pm_i_callv (k := 18) (T2 := pm_mm176) pm_a0_423 rfl rfl rfl (mh_get (j := 0) kA18_len rfl) ⟨Nat.le_of_ble_eq_true rfl, Nat.le_of_ble_eq_true rfl, rfl, by decide +kernel⟩ ?_
  show pm_E none _ _ 0 [(0, .ref 18), (1, .int (iI (xv xs i 1))), (2, .int (iI (xv xs i 2)))] [] _ _ _ _
  refine M_same kA18_len hin1 hok hsh xv_in xv_in (fun y9 => ?_) (fun x0 x1 u0 u1 hp => ?_) (fun x0 x1 u0 u1 hp => ?_)
  · skip
    rw [← ch_mh hW hn50 hq50]
    show pm_E _ _ _ 426 [(0, .retAddr 0), (1, .ref 0), (2, .ref 18), (3, .int (iI i))] [.int (iI (-1))] _ _ _ _
    refine pm_e_sim pm_a0_426 rfl ?_
    show pm_E _ _ _ 427 [(0, .retAddr 0), (1, .ref 0), (2, .ref 18), (3, .int (iI i))] [] _ _ _ _
    refine pm_e_goto pm_a0_427 rfl ?_
    show pm_E _ _ _ 779 [(0, .retAddr 0), (1, .ref 0), (2, .ref 18), (3, .int (iI i))] [] _ _ _ _
    exact k _ _ _ _ _ _ _ _ _ _ _ _ ⟨N, T, hok, hc, hm, by omega, by omega⟩
  · skip
    rw [← ch_mh hW hn50 hq50]
    show pm_E _ _ _ 426 [(0, .retAddr 0), (1, .ref 0), (2, .ref 18), (3, .int (iI i))] [.int (iI 1)] _ _ _ _
    refine pm_e_sim pm_a0_426 rfl ?_
    show pm_E _ _ _ 427 [(0, .retAddr 0), (1, .ref 0), (2, .ref 18), (3, .int (iI i))] [] _ _ _ _
    refine pm_e_goto pm_a0_427 rfl ?_
    show pm_E _ _ _ 779 [(0, .retAddr 0), (1, .ref 0), (2, .ref 18), (3, .int (iI i))] [] _ _ _ _
    exact k _ _ _ _ _ _ _ _ _ _ _ _ ⟨N, T, hok, hc, hm, by omega, by omega⟩
  · skip
    rw [← ch_mh hW hn50 hq50]
    show pm_E _ _ _ 426 [(0, .retAddr 0), (1, .ref 0), (2, .ref 18), (3, .int (iI i))] [.int (iI 0)] _ _ _ _
    refine pm_e_sim pm_a0_426 rfl ?_
    show pm_E _ _ _ 427 [(0, .retAddr 0), (1, .ref 0), (2, .ref 18), (3, .int (iI i))] [] _ _ _ _
    refine pm_e_goto pm_a0_427 rfl ?_
    show pm_E _ _ _ 779 [(0, .retAddr 0), (1, .ref 0), (2, .ref 18), (3, .int (iI i))] [] _ _ _ _
    exact k _ _ _ _ _ _ _ _ _ _ _ _ ⟨N, T, hok, hc, hm, by omega, by omega⟩
set_option maxHeartbeats 4000000 in
set_option maxRecDepth 100000 in
theorem LM_told {L : Nat} {xs : Nat → Int32} {t n nc ns : Nat} {kd pl : Nat → Nat} {s : Nat → Int} {a : Nat → Int → Int} {c : Nat → cdt} {s1 : Nat → Int} {v1 : Int64} {a1 : Nat → Int → Int} {nm : Nat → Int64} {N i : Int} {T : Int → List Int} {Q : Option Value → List va_E → Nat → Nat → Prop} (hi0 : 0 ≤ i) (hi6 : i + 6 ≤ L) (hL : L ≤ 3072) (hok : okT N T) (hc : cI n kd pl s a c N T) (hm : mI s a s1 a1 N T) (hin1 : ∀ i j, in32 (a1 i j)) (hnc : nc ≤ 50 + 12 * (t + 1)) (hns : ns ≤ 194358 + 503 * (t + 1) + wt pl) (k : ∀ n' kd' pl' s' a' c' s1' v1' a1' nm' nc' ns', LI (t + 1) n' kd' pl' s' a' c' s1' a1' nc' ns' → pm_E (some (L, xs)) 11 pm_mm0 779 [(0, .retAddr 0), (1, .ref 0), (2, .ref 18), (3, .int (iI i))] [] (ch n' kd' pl' s' a' c' (mc s1' v1' a1' nm')) nc' ns' Q) : pm_E (some (L, xs)) 11 pm_mm0 516 [(0, .retAddr 0), (1, .ref 0), (2, .ref 18), (3, .int (iI i))] [] (ch n kd pl s a c (mc s1 v1 a1 nm)) nc ns Q := by
  obtain ⟨⟨hW, hn50, hq50⟩, hS, hf, ⟨h4, h4'⟩, hb, ⟨ho0, ho1⟩, ⟨h14, h14'⟩, hA, hY⟩ := id hc
  have hp0 : pl 0 = 0 := hW.2.2.2.2.2.2
  obtain ⟨hsh, m4, m3, m45, m45', mt⟩ := id hm
  obtain ⟨hN0, hN32, hT⟩ := id hok
  have s0 : s 0 = N := hS.1
  have m0 : s1 0 = N := hsh.1
  refine pm_e_sim pm_a0_516 rfl ?_
  show pm_E _ _ _ 517 [(0, .retAddr 0), (1, .ref 0), (2, .ref 18), (3, .int (iI i))] [.ref 18] _ _ _ _
  refine pm_e_sim pm_a0_517 rfl ?_
  show pm_E _ _ _ 518 [(0, .retAddr 0), (1, .ref 0), (2, .ref 18), (3, .int (iI i))] [.retAddr 0, .ref 18] _ _ _ _
  refine pm_e_sim pm_a0_518 rfl ?_
  show pm_E _ _ _ 519 [(0, .retAddr 0), (1, .ref 0), (2, .ref 18), (3, .int (iI i))] [.int (iI i), .retAddr 0, .ref 18] _ _ _ _
  refine pm_e_sim pm_a0_519 rfl ?_
  refine pm_e_top (y := iI 1) (by decide +kernel) ?_
  show pm_E _ _ _ 520 [(0, .retAddr 0), (1, .ref 0), (2, .ref 18), (3, .int (iI i))] [.int (iI 1), .int (iI i), .retAddr 0, .ref 18] _ _ _ _
  refine pm_e_sim pm_a0_520 rfl ?_
  refine pm_e_top (y := iI (i + 1)) (iI_add _ _) ?_
  show pm_E _ _ _ 521 [(0, .retAddr 0), (1, .ref 0), (2, .ref 18), (3, .int (iI i))] [.int (iI (i + 1)), .retAddr 0, .ref 18] _ _ _ _
  refine pm_e_sld (j := (i + 1).toNat) pm_a0_521 (pm_ix_I (by omega) (by omega) ⟨by omega, by omega⟩) ?_
  refine pm_e_top (y := iI (xv xs i 1)) (iI_of _).symm ?_
  show pm_E _ _ _ 522 [(0, .retAddr 0), (1, .ref 0), (2, .ref 18), (3, .int (iI i))] [.int (iI (xv xs i 1)), .ref 18] _ _ _ _
  rw [ch_mh hW hn50 hq50]
  refine pm_i_callv (k := 18) (T2 := pm_mm190) pm_a0_522 rfl rfl rfl (mh_get (j := 0) kA18_len rfl) ⟨Nat.le_of_ble_eq_true rfl, Nat.le_of_ble_eq_true rfl, rfl, by decide +kernel⟩ ?_
  show pm_E none _ _ 0 [(0, .ref 18), (1, .int (iI (xv xs i 1)))] [] _ _ _ _
  refine M_told kA18_len xv_in (fun y9 => ?_) (fun y9 => ?_) (fun y1 y2 => ?_)
  · skip
    rw [← ch_mh hW hn50 hq50]
    show pm_E _ _ _ 525 [(0, .retAddr 0), (1, .ref 0), (2, .ref 18), (3, .int (iI i))] [.int (iI (s1 30))] _ _ _ _
    refine pm_e_sim pm_a0_525 rfl ?_
    show pm_E _ _ _ 526 [(0, .retAddr 0), (1, .ref 0), (2, .ref 18), (3, .int (iI i))] [] _ _ _ _
    refine pm_e_goto pm_a0_526 rfl ?_
    show pm_E _ _ _ 779 [(0, .retAddr 0), (1, .ref 0), (2, .ref 18), (3, .int (iI i))] [] _ _ _ _
    exact k _ _ _ _ _ _ _ _ _ _ _ _ ⟨N, T, hok, hc, hm, by omega, by omega⟩
  · skip
    rw [← ch_mh hW hn50 hq50]
    show pm_E _ _ _ 525 [(0, .retAddr 0), (1, .ref 0), (2, .ref 18), (3, .int (iI i))] [.int (iI (s1 31))] _ _ _ _
    refine pm_e_sim pm_a0_525 rfl ?_
    show pm_E _ _ _ 526 [(0, .retAddr 0), (1, .ref 0), (2, .ref 18), (3, .int (iI i))] [] _ _ _ _
    refine pm_e_goto pm_a0_526 rfl ?_
    show pm_E _ _ _ 779 [(0, .retAddr 0), (1, .ref 0), (2, .ref 18), (3, .int (iI i))] [] _ _ _ _
    exact k _ _ _ _ _ _ _ _ _ _ _ _ ⟨N, T, hok, hc, hm, by omega, by omega⟩
  · skip
    rw [← ch_mh hW hn50 hq50]
    show pm_E _ _ _ 525 [(0, .retAddr 0), (1, .ref 0), (2, .ref 18), (3, .int (iI i))] [.int (iI (-1))] _ _ _ _
    refine pm_e_sim pm_a0_525 rfl ?_
    show pm_E _ _ _ 526 [(0, .retAddr 0), (1, .ref 0), (2, .ref 18), (3, .int (iI i))] [] _ _ _ _
    refine pm_e_goto pm_a0_526 rfl ?_
    show pm_E _ _ _ 779 [(0, .retAddr 0), (1, .ref 0), (2, .ref 18), (3, .int (iI i))] [] _ _ _ _
    exact k _ _ _ _ _ _ _ _ _ _ _ _ ⟨N, T, hok, hc, hm, by omega, by omega⟩
set_option maxHeartbeats 4000000 in
set_option maxRecDepth 100000 in
theorem LM_type {L : Nat} {xs : Nat → Int32} {t n nc ns : Nat} {kd pl : Nat → Nat} {s : Nat → Int} {a : Nat → Int → Int} {c : Nat → cdt} {s1 : Nat → Int} {v1 : Int64} {a1 : Nat → Int → Int} {nm : Nat → Int64} {N i : Int} {T : Int → List Int} {Q : Option Value → List va_E → Nat → Nat → Prop} (hi0 : 0 ≤ i) (hi6 : i + 6 ≤ L) (hL : L ≤ 3072) (hok : okT N T) (hc : cI n kd pl s a c N T) (hm : mI s a s1 a1 N T) (hin1 : ∀ i j, in32 (a1 i j)) (hnc : nc ≤ 50 + 12 * (t + 1)) (hns : ns ≤ 194358 + 503 * (t + 1) + wt pl) (k : ∀ n' kd' pl' s' a' c' s1' v1' a1' nm' nc' ns', LI (t + 1) n' kd' pl' s' a' c' s1' a1' nc' ns' → pm_E (some (L, xs)) 11 pm_mm0 779 [(0, .retAddr 0), (1, .ref 0), (2, .ref 18), (3, .int (iI i))] [] (ch n' kd' pl' s' a' c' (mc s1' v1' a1' nm')) nc' ns' Q) : pm_E (some (L, xs)) 11 pm_mm0 697 [(0, .retAddr 0), (1, .ref 0), (2, .ref 18), (3, .int (iI i))] [] (ch n kd pl s a c (mc s1 v1 a1 nm)) nc ns Q := by
  obtain ⟨⟨hW, hn50, hq50⟩, hS, hf, ⟨h4, h4'⟩, hb, ⟨ho0, ho1⟩, ⟨h14, h14'⟩, hA, hY⟩ := id hc
  have hp0 : pl 0 = 0 := hW.2.2.2.2.2.2
  obtain ⟨hsh, m4, m3, m45, m45', mt⟩ := id hm
  obtain ⟨hN0, hN32, hT⟩ := id hok
  have s0 : s 0 = N := hS.1
  have m0 : s1 0 = N := hsh.1
  refine pm_e_sim pm_a0_697 rfl ?_
  show pm_E _ _ _ 698 [(0, .retAddr 0), (1, .ref 0), (2, .ref 18), (3, .int (iI i))] [.ref 18] _ _ _ _
  refine pm_e_sim pm_a0_698 rfl ?_
  show pm_E _ _ _ 699 [(0, .retAddr 0), (1, .ref 0), (2, .ref 18), (3, .int (iI i))] [.retAddr 0, .ref 18] _ _ _ _
  refine pm_e_sim pm_a0_699 rfl ?_
  show pm_E _ _ _ 700 [(0, .retAddr 0), (1, .ref 0), (2, .ref 18), (3, .int (iI i))] [.int (iI i), .retAddr 0, .ref 18] _ _ _ _
  refine pm_e_sim pm_a0_700 rfl ?_
  refine pm_e_top (y := iI 1) (by decide +kernel) ?_
  show pm_E _ _ _ 701 [(0, .retAddr 0), (1, .ref 0), (2, .ref 18), (3, .int (iI i))] [.int (iI 1), .int (iI i), .retAddr 0, .ref 18] _ _ _ _
  refine pm_e_sim pm_a0_701 rfl ?_
  refine pm_e_top (y := iI (i + 1)) (iI_add _ _) ?_
  show pm_E _ _ _ 702 [(0, .retAddr 0), (1, .ref 0), (2, .ref 18), (3, .int (iI i))] [.int (iI (i + 1)), .retAddr 0, .ref 18] _ _ _ _
  refine pm_e_sld (j := (i + 1).toNat) pm_a0_702 (pm_ix_I (by omega) (by omega) ⟨by omega, by omega⟩) ?_
  refine pm_e_top (y := iI (xv xs i 1)) (iI_of _).symm ?_
  show pm_E _ _ _ 703 [(0, .retAddr 0), (1, .ref 0), (2, .ref 18), (3, .int (iI i))] [.int (iI (xv xs i 1)), .ref 18] _ _ _ _
  rw [ch_mh hW hn50 hq50]
  refine pm_i_callv (k := 18) (T2 := pm_mm211) pm_a0_703 rfl rfl rfl (mh_get (j := 0) kA18_len rfl) ⟨Nat.le_of_ble_eq_true rfl, Nat.le_of_ble_eq_true rfl, rfl, by decide +kernel⟩ ?_
  show pm_E none _ _ 0 [(0, .ref 18), (1, .int (iI (xv xs i 1)))] [] _ _ _ _
  refine M_type kA18_len xv_in m45 m45' (fun r => ?_)
  · skip
    rw [← ch_mh hW hn50 hq50]
    show pm_E _ _ _ 706 [(0, .retAddr 0), (1, .ref 0), (2, .ref 18), (3, .int (iI i))] [.int (iI r)] _ _ _ _
    refine pm_e_sim pm_a0_706 rfl ?_
    show pm_E _ _ _ 707 [(0, .retAddr 0), (1, .ref 0), (2, .ref 18), (3, .int (iI i))] [] _ _ _ _
    refine pm_e_goto pm_a0_707 rfl ?_
    show pm_E _ _ _ 779 [(0, .retAddr 0), (1, .ref 0), (2, .ref 18), (3, .int (iI i))] [] _ _ _ _
    exact k _ _ _ _ _ _ _ _ _ _ _ _ ⟨N, T, hok, hc, hm, by omega, by omega⟩
set_option maxHeartbeats 4000000 in
set_option maxRecDepth 100000 in
theorem LM_count {L : Nat} {xs : Nat → Int32} {t n nc ns : Nat} {kd pl : Nat → Nat} {s : Nat → Int} {a : Nat → Int → Int} {c : Nat → cdt} {s1 : Nat → Int} {v1 : Int64} {a1 : Nat → Int → Int} {nm : Nat → Int64} {N i : Int} {T : Int → List Int} {Q : Option Value → List va_E → Nat → Nat → Prop} (hi0 : 0 ≤ i) (hi6 : i + 6 ≤ L) (hL : L ≤ 3072) (hok : okT N T) (hc : cI n kd pl s a c N T) (hm : mI s a s1 a1 N T) (hin1 : ∀ i j, in32 (a1 i j)) (hnc : nc ≤ 50 + 12 * (t + 1)) (hns : ns ≤ 194358 + 503 * (t + 1) + wt pl) (k : ∀ n' kd' pl' s' a' c' s1' v1' a1' nm' nc' ns', LI (t + 1) n' kd' pl' s' a' c' s1' a1' nc' ns' → pm_E (some (L, xs)) 11 pm_mm0 779 [(0, .retAddr 0), (1, .ref 0), (2, .ref 18), (3, .int (iI i))] [] (ch n' kd' pl' s' a' c' (mc s1' v1' a1' nm')) nc' ns' Q) : pm_E (some (L, xs)) 11 pm_mm0 766 [(0, .retAddr 0), (1, .ref 0), (2, .ref 18), (3, .int (iI i))] [] (ch n kd pl s a c (mc s1 v1 a1 nm)) nc ns Q := by
  obtain ⟨⟨hW, hn50, hq50⟩, hS, hf, ⟨h4, h4'⟩, hb, ⟨ho0, ho1⟩, ⟨h14, h14'⟩, hA, hY⟩ := id hc
  have hp0 : pl 0 = 0 := hW.2.2.2.2.2.2
  obtain ⟨hsh, m4, m3, m45, m45', mt⟩ := id hm
  obtain ⟨hN0, hN32, hT⟩ := id hok
  have s0 : s 0 = N := hS.1
  have m0 : s1 0 = N := hsh.1
  refine pm_e_sim pm_a0_766 rfl ?_
  show pm_E _ _ _ 767 [(0, .retAddr 0), (1, .ref 0), (2, .ref 18), (3, .int (iI i))] [.ref 18] _ _ _ _
  refine pm_e_sim pm_a0_767 rfl ?_
  show pm_E _ _ _ 768 [(0, .retAddr 0), (1, .ref 0), (2, .ref 18), (3, .int (iI i))] [.retAddr 0, .ref 18] _ _ _ _
  refine pm_e_sim pm_a0_768 rfl ?_
  show pm_E _ _ _ 769 [(0, .retAddr 0), (1, .ref 0), (2, .ref 18), (3, .int (iI i))] [.int (iI i), .retAddr 0, .ref 18] _ _ _ _
  refine pm_e_sim pm_a0_769 rfl ?_
  refine pm_e_top (y := iI 1) (by decide +kernel) ?_
  show pm_E _ _ _ 770 [(0, .retAddr 0), (1, .ref 0), (2, .ref 18), (3, .int (iI i))] [.int (iI 1), .int (iI i), .retAddr 0, .ref 18] _ _ _ _
  refine pm_e_sim pm_a0_770 rfl ?_
  refine pm_e_top (y := iI (i + 1)) (iI_add _ _) ?_
  show pm_E _ _ _ 771 [(0, .retAddr 0), (1, .ref 0), (2, .ref 18), (3, .int (iI i))] [.int (iI (i + 1)), .retAddr 0, .ref 18] _ _ _ _
  refine pm_e_sld (j := (i + 1).toNat) pm_a0_771 (pm_ix_I (by omega) (by omega) ⟨by omega, by omega⟩) ?_
  refine pm_e_top (y := iI (xv xs i 1)) (iI_of _).symm ?_
  show pm_E _ _ _ 772 [(0, .retAddr 0), (1, .ref 0), (2, .ref 18), (3, .int (iI i))] [.int (iI (xv xs i 1)), .ref 18] _ _ _ _
  rw [ch_mh hW hn50 hq50]
  refine pm_i_callv (k := 18) (T2 := pm_mm214) pm_a0_772 rfl rfl rfl (mh_get (j := 0) kA18_len rfl) ⟨Nat.le_of_ble_eq_true rfl, Nat.le_of_ble_eq_true rfl, rfl, by decide +kernel⟩ ?_
  show pm_E none _ _ 0 [(0, .ref 18), (1, .int (iI (xv xs i 1)))] [] _ _ _ _
  refine M_count kA18_len xv_in ⟨by omega, by omega⟩ (by omega) (by omega) (sh_sz hok hsh) (fun y9 => ?_) (fun y9 => ?_) (fun y9 => ?_) (fun y1 y2 y3 => ?_)
  · skip
    rw [← ch_mh hW hn50 hq50]
    show pm_E _ _ _ 775 [(0, .retAddr 0), (1, .ref 0), (2, .ref 18), (3, .int (iI i))] [.int (iI (s1 0))] _ _ _ _
    refine pm_e_sim pm_a0_775 rfl ?_
    show pm_E _ _ _ 776 [(0, .retAddr 0), (1, .ref 0), (2, .ref 18), (3, .int (iI i))] [] _ _ _ _
    refine pm_e_goto pm_a0_776 rfl ?_
    show pm_E _ _ _ 779 [(0, .retAddr 0), (1, .ref 0), (2, .ref 18), (3, .int (iI i))] [] _ _ _ _
    exact k _ _ _ _ _ _ _ _ _ _ _ _ ⟨N, T, hok, hc, hm, by omega, by omega⟩
  · skip
    rw [← ch_mh hW hn50 hq50]
    show pm_E _ _ _ 775 [(0, .retAddr 0), (1, .ref 0), (2, .ref 18), (3, .int (iI i))] [.int (iI (s1 4))] _ _ _ _
    refine pm_e_sim pm_a0_775 rfl ?_
    show pm_E _ _ _ 776 [(0, .retAddr 0), (1, .ref 0), (2, .ref 18), (3, .int (iI i))] [] _ _ _ _
    refine pm_e_goto pm_a0_776 rfl ?_
    show pm_E _ _ _ 779 [(0, .retAddr 0), (1, .ref 0), (2, .ref 18), (3, .int (iI i))] [] _ _ _ _
    exact k _ _ _ _ _ _ _ _ _ _ _ _ ⟨N, T, hok, hc, hm, by omega, by omega⟩
  · skip
    rw [← ch_mh hW hn50 hq50]
    show pm_E _ _ _ 775 [(0, .retAddr 0), (1, .ref 0), (2, .ref 18), (3, .int (iI i))] [.int (iI (suI (a1 1) (s1 0).toNat 0 0))] _ _ _ _
    refine pm_e_sim pm_a0_775 rfl ?_
    show pm_E _ _ _ 776 [(0, .retAddr 0), (1, .ref 0), (2, .ref 18), (3, .int (iI i))] [] _ _ _ _
    refine pm_e_goto pm_a0_776 rfl ?_
    show pm_E _ _ _ 779 [(0, .retAddr 0), (1, .ref 0), (2, .ref 18), (3, .int (iI i))] [] _ _ _ _
    exact k _ _ _ _ _ _ _ _ _ _ _ _ ⟨N, T, hok, hc, hm, by omega, by omega⟩
  · skip
    rw [← ch_mh hW hn50 hq50]
    show pm_E _ _ _ 775 [(0, .retAddr 0), (1, .ref 0), (2, .ref 18), (3, .int (iI i))] [.int (iI (-1))] _ _ _ _
    refine pm_e_sim pm_a0_775 rfl ?_
    show pm_E _ _ _ 776 [(0, .retAddr 0), (1, .ref 0), (2, .ref 18), (3, .int (iI i))] [] _ _ _ _
    refine pm_e_goto pm_a0_776 rfl ?_
    show pm_E _ _ _ 779 [(0, .retAddr 0), (1, .ref 0), (2, .ref 18), (3, .int (iI i))] [] _ _ _ _
    exact k _ _ _ _ _ _ _ _ _ _ _ _ ⟨N, T, hok, hc, hm, by omega, by omega⟩
set_option maxHeartbeats 4000000 in
set_option maxRecDepth 100000 in
theorem LM_redexes {L : Nat} {xs : Nat → Int32} {t n nc ns : Nat} {kd pl : Nat → Nat} {s : Nat → Int} {a : Nat → Int → Int} {c : Nat → cdt} {s1 : Nat → Int} {v1 : Int64} {a1 : Nat → Int → Int} {nm : Nat → Int64} {N i : Int} {T : Int → List Int} {Q : Option Value → List va_E → Nat → Nat → Prop} (hi0 : 0 ≤ i) (hi6 : i + 6 ≤ L) (hL : L ≤ 3072) (hok : okT N T) (hc : cI n kd pl s a c N T) (hm : mI s a s1 a1 N T) (hin1 : ∀ i j, in32 (a1 i j)) (hnc : nc ≤ 50 + 12 * (t + 1)) (hns : ns ≤ 194358 + 503 * (t + 1) + wt pl) (k : ∀ n' kd' pl' s' a' c' s1' v1' a1' nm' nc' ns', LI (t + 1) n' kd' pl' s' a' c' s1' a1' nc' ns' → pm_E (some (L, xs)) 11 pm_mm0 779 [(0, .retAddr 0), (1, .ref 0), (2, .ref 18), (3, .int (iI i))] [] (ch n' kd' pl' s' a' c' (mc s1' v1' a1' nm')) nc' ns' Q) : pm_E (some (L, xs)) 11 pm_mm0 572 [(0, .retAddr 0), (1, .ref 0), (2, .ref 18), (3, .int (iI i))] [] (ch n kd pl s a c (mc s1 v1 a1 nm)) nc ns Q := by
  obtain ⟨⟨hW, hn50, hq50⟩, hS, hf, ⟨h4, h4'⟩, hb, ⟨ho0, ho1⟩, ⟨h14, h14'⟩, hA, hY⟩ := id hc
  have hp0 : pl 0 = 0 := hW.2.2.2.2.2.2
  obtain ⟨hsh, m4, m3, m45, m45', mt⟩ := id hm
  obtain ⟨hN0, hN32, hT⟩ := id hok
  have s0 : s 0 = N := hS.1
  have m0 : s1 0 = N := hsh.1
  refine pm_e_sim pm_a0_572 rfl ?_
  show pm_E _ _ _ 573 [(0, .retAddr 0), (1, .ref 0), (2, .ref 18), (3, .int (iI i))] [.ref 18] _ _ _ _
  refine pm_e_sim pm_a0_573 rfl ?_
  show pm_E _ _ _ 574 [(0, .retAddr 0), (1, .ref 0), (2, .ref 18), (3, .int (iI i))] [.retAddr 0, .ref 18] _ _ _ _
  refine pm_e_sim pm_a0_574 rfl ?_
  show pm_E _ _ _ 575 [(0, .retAddr 0), (1, .ref 0), (2, .ref 18), (3, .int (iI i))] [.int (iI i), .retAddr 0, .ref 18] _ _ _ _
  refine pm_e_sim pm_a0_575 rfl ?_
  refine pm_e_top (y := iI 1) (by decide +kernel) ?_
  show pm_E _ _ _ 576 [(0, .retAddr 0), (1, .ref 0), (2, .ref 18), (3, .int (iI i))] [.int (iI 1), .int (iI i), .retAddr 0, .ref 18] _ _ _ _
  refine pm_e_sim pm_a0_576 rfl ?_
  refine pm_e_top (y := iI (i + 1)) (iI_add _ _) ?_
  show pm_E _ _ _ 577 [(0, .retAddr 0), (1, .ref 0), (2, .ref 18), (3, .int (iI i))] [.int (iI (i + 1)), .retAddr 0, .ref 18] _ _ _ _
  refine pm_e_sld (j := (i + 1).toNat) pm_a0_577 (pm_ix_I (by omega) (by omega) ⟨by omega, by omega⟩) ?_
  refine pm_e_top (y := iI (xv xs i 1)) (iI_of _).symm ?_
  show pm_E _ _ _ 578 [(0, .retAddr 0), (1, .ref 0), (2, .ref 18), (3, .int (iI i))] [.int (iI (xv xs i 1)), .ref 18] _ _ _ _
  rw [ch_mh hW hn50 hq50]
  refine pm_i_callv (k := 18) (T2 := pm_mm192) pm_a0_578 rfl rfl rfl (mh_get (j := 0) kA18_len rfl) ⟨Nat.le_of_ble_eq_true rfl, Nat.le_of_ble_eq_true rfl, rfl, by decide +kernel⟩ ?_
  show pm_E none _ _ 0 [(0, .ref 18), (1, .int (iI (xv xs i 1)))] [] _ _ _ _
  refine M_redexes kA18_len xv_in (by omega) (by omega) (sh_sz hok hsh) (hin1 4) (hin1 2) (fun x0 x1 => ?_) (fun _ => ?_)
  · skip
    rw [← ch_mh hW hn50 hq50]
    show pm_E _ _ _ 581 [(0, .retAddr 0), (1, .ref 0), (2, .ref 18), (3, .int (iI i))] [.int (iI (cnt (cpI (a1 4) (a1 2) (500 * xv xs i 1) 0 (a1 1 (xv xs i 1))) (a1 1 (xv xs i 1)) (a1 1 (xv xs i 1)).toNat 0 0))] _ _ _ _
    refine pm_e_sim pm_a0_581 rfl ?_
    show pm_E _ _ _ 582 [(0, .retAddr 0), (1, .ref 0), (2, .ref 18), (3, .int (iI i))] [] _ _ _ _
    refine pm_e_goto pm_a0_582 rfl ?_
    show pm_E _ _ _ 779 [(0, .retAddr 0), (1, .ref 0), (2, .ref 18), (3, .int (iI i))] [] _ _ _ _
    exact k _ _ _ _ _ _ _ _ _ _ _ _ ⟨N, T, hok, hc, ⟨sh_fr hsh rfl rfl rfl, m4, m3, m45, m45', tld_m mt rfl rfl rfl⟩, by omega, by omega⟩
  · skip
    rw [← ch_mh hW hn50 hq50]
    show pm_E _ _ _ 581 [(0, .retAddr 0), (1, .ref 0), (2, .ref 18), (3, .int (iI i))] [.int (iI (-1))] _ _ _ _
    refine pm_e_sim pm_a0_581 rfl ?_
    show pm_E _ _ _ 582 [(0, .retAddr 0), (1, .ref 0), (2, .ref 18), (3, .int (iI i))] [] _ _ _ _
    refine pm_e_goto pm_a0_582 rfl ?_
    show pm_E _ _ _ 779 [(0, .retAddr 0), (1, .ref 0), (2, .ref 18), (3, .int (iI i))] [] _ _ _ _
    exact k _ _ _ _ _ _ _ _ _ _ _ _ ⟨N, T, hok, hc, hm, by omega, by omega⟩
set_option maxHeartbeats 4000000 in
set_option maxRecDepth 100000 in
theorem LM_letter {L : Nat} {xs : Nat → Int32} {t n nc ns : Nat} {kd pl : Nat → Nat} {s : Nat → Int} {a : Nat → Int → Int} {c : Nat → cdt} {s1 : Nat → Int} {v1 : Int64} {a1 : Nat → Int → Int} {nm : Nat → Int64} {N i : Int} {T : Int → List Int} {Q : Option Value → List va_E → Nat → Nat → Prop} (hi0 : 0 ≤ i) (hi6 : i + 6 ≤ L) (hL : L ≤ 3072) (hok : okT N T) (hc : cI n kd pl s a c N T) (hm : mI s a s1 a1 N T) (hin1 : ∀ i j, in32 (a1 i j)) (hnc : nc ≤ 50 + 12 * (t + 1)) (hns : ns ≤ 194358 + 503 * (t + 1) + wt pl) (k : ∀ n' kd' pl' s' a' c' s1' v1' a1' nm' nc' ns', LI (t + 1) n' kd' pl' s' a' c' s1' a1' nc' ns' → pm_E (some (L, xs)) 11 pm_mm0 779 [(0, .retAddr 0), (1, .ref 0), (2, .ref 18), (3, .int (iI i))] [] (ch n' kd' pl' s' a' c' (mc s1' v1' a1' nm')) nc' ns' Q) : pm_E (some (L, xs)) 11 pm_mm0 323 [(0, .retAddr 0), (1, .ref 0), (2, .ref 18), (3, .int (iI i))] [] (ch n kd pl s a c (mc s1 v1 a1 nm)) nc ns Q := by
  obtain ⟨⟨hW, hn50, hq50⟩, hS, hf, ⟨h4, h4'⟩, hb, ⟨ho0, ho1⟩, ⟨h14, h14'⟩, hA, hY⟩ := id hc
  have hp0 : pl 0 = 0 := hW.2.2.2.2.2.2
  obtain ⟨hsh, m4, m3, m45, m45', mt⟩ := id hm
  obtain ⟨hN0, hN32, hT⟩ := id hok
  have s0 : s 0 = N := hS.1
  have m0 : s1 0 = N := hsh.1
  refine pm_e_sim pm_a0_323 rfl ?_
  show pm_E _ _ _ 324 [(0, .retAddr 0), (1, .ref 0), (2, .ref 18), (3, .int (iI i))] [.ref 18] _ _ _ _
  refine pm_e_sim pm_a0_324 rfl ?_
  show pm_E _ _ _ 325 [(0, .retAddr 0), (1, .ref 0), (2, .ref 18), (3, .int (iI i))] [.retAddr 0, .ref 18] _ _ _ _
  refine pm_e_sim pm_a0_325 rfl ?_
  show pm_E _ _ _ 326 [(0, .retAddr 0), (1, .ref 0), (2, .ref 18), (3, .int (iI i))] [.int (iI i), .retAddr 0, .ref 18] _ _ _ _
  refine pm_e_sim pm_a0_326 rfl ?_
  refine pm_e_top (y := iI 1) (by decide +kernel) ?_
  show pm_E _ _ _ 327 [(0, .retAddr 0), (1, .ref 0), (2, .ref 18), (3, .int (iI i))] [.int (iI 1), .int (iI i), .retAddr 0, .ref 18] _ _ _ _
  refine pm_e_sim pm_a0_327 rfl ?_
  refine pm_e_top (y := iI (i + 1)) (iI_add _ _) ?_
  show pm_E _ _ _ 328 [(0, .retAddr 0), (1, .ref 0), (2, .ref 18), (3, .int (iI i))] [.int (iI (i + 1)), .retAddr 0, .ref 18] _ _ _ _
  refine pm_e_sld (j := (i + 1).toNat) pm_a0_328 (pm_ix_I (by omega) (by omega) ⟨by omega, by omega⟩) ?_
  refine pm_e_top (y := iI (xv xs i 1)) (iI_of _).symm ?_
  show pm_E _ _ _ 329 [(0, .retAddr 0), (1, .ref 0), (2, .ref 18), (3, .int (iI i))] [.int (iI (xv xs i 1)), .ref 18] _ _ _ _
  refine pm_e_sim pm_a0_329 rfl ?_
  show pm_E _ _ _ 330 [(0, .retAddr 0), (1, .ref 0), (2, .ref 18), (3, .int (iI i))] [.retAddr 0, .int (iI (xv xs i 1)), .ref 18] _ _ _ _
  refine pm_e_sim pm_a0_330 rfl ?_
  show pm_E _ _ _ 331 [(0, .retAddr 0), (1, .ref 0), (2, .ref 18), (3, .int (iI i))] [.int (iI i), .retAddr 0, .int (iI (xv xs i 1)), .ref 18] _ _ _ _
  refine pm_e_sim pm_a0_331 rfl ?_
  refine pm_e_top (y := iI 2) (by decide +kernel) ?_
  show pm_E _ _ _ 332 [(0, .retAddr 0), (1, .ref 0), (2, .ref 18), (3, .int (iI i))] [.int (iI 2), .int (iI i), .retAddr 0, .int (iI (xv xs i 1)), .ref 18] _ _ _ _
  refine pm_e_sim pm_a0_332 rfl ?_
  refine pm_e_top (y := iI (i + 2)) (iI_add _ _) ?_
  show pm_E _ _ _ 333 [(0, .retAddr 0), (1, .ref 0), (2, .ref 18), (3, .int (iI i))] [.int (iI (i + 2)), .retAddr 0, .int (iI (xv xs i 1)), .ref 18] _ _ _ _
  refine pm_e_sld (j := (i + 2).toNat) pm_a0_333 (pm_ix_I (by omega) (by omega) ⟨by omega, by omega⟩) ?_
  refine pm_e_top (y := iI (xv xs i 2)) (iI_of _).symm ?_
  show pm_E _ _ _ 334 [(0, .retAddr 0), (1, .ref 0), (2, .ref 18), (3, .int (iI i))] [.int (iI (xv xs i 2)), .int (iI (xv xs i 1)), .ref 18] _ _ _ _
  rw [ch_mh hW hn50 hq50]
  refine pm_i_callv (k := 18) (T2 := pm_mm167) pm_a0_334 rfl rfl rfl (mh_get (j := 0) kA18_len rfl) ⟨Nat.le_of_ble_eq_true rfl, Nat.le_of_ble_eq_true rfl, rfl, by decide +kernel⟩ ?_
  show pm_E none _ _ 0 [(0, .ref 18), (1, .int (iI (xv xs i 1))), (2, .int (iI (xv xs i 2)))] [] _ _ _ _
  refine M_letter kA18_len hin1 hok hsh xv_in xv_in (fun r s1' a1' f0 f4 f1 f2 f3 => ?_)
  · skip
    rw [← ch_mh hW hn50 hq50]
    show pm_E _ _ _ 337 [(0, .retAddr 0), (1, .ref 0), (2, .ref 18), (3, .int (iI i))] [.int (iI r)] _ _ _ _
    refine pm_e_sim pm_a0_337 rfl ?_
    show pm_E _ _ _ 338 [(0, .retAddr 0), (1, .ref 0), (2, .ref 18), (3, .int (iI i))] [] _ _ _ _
    refine pm_e_goto pm_a0_338 rfl ?_
    show pm_E _ _ _ 779 [(0, .retAddr 0), (1, .ref 0), (2, .ref 18), (3, .int (iI i))] [] _ _ _ _
    exact k _ _ _ _ _ _ _ _ _ _ _ _ ⟨N, T, hok, hc, ⟨sh_fr hsh f0 f1 f2, f4.1.trans m4, f3.trans m3, by omega, by omega, tld_m mt f4.2.2.1 f4.2.2.2.1 f4.2.2.2.2⟩, by omega, by omega⟩
set_option maxHeartbeats 4000000 in
set_option maxRecDepth 100000 in
theorem LM_about {L : Nat} {xs : Nat → Int32} {t n nc ns : Nat} {kd pl : Nat → Nat} {s : Nat → Int} {a : Nat → Int → Int} {c : Nat → cdt} {s1 : Nat → Int} {v1 : Int64} {a1 : Nat → Int → Int} {nm : Nat → Int64} {N i : Int} {T : Int → List Int} {Q : Option Value → List va_E → Nat → Nat → Prop} (hi0 : 0 ≤ i) (hi6 : i + 6 ≤ L) (hL : L ≤ 3072) (hok : okT N T) (hc : cI n kd pl s a c N T) (hm : mI s a s1 a1 N T) (hin1 : ∀ i j, in32 (a1 i j)) (hnc : nc ≤ 50 + 12 * (t + 1)) (hns : ns ≤ 194358 + 503 * (t + 1) + wt pl) (k : ∀ n' kd' pl' s' a' c' s1' v1' a1' nm' nc' ns', LI (t + 1) n' kd' pl' s' a' c' s1' a1' nc' ns' → pm_E (some (L, xs)) 11 pm_mm0 779 [(0, .retAddr 0), (1, .ref 0), (2, .ref 18), (3, .int (iI i))] [] (ch n' kd' pl' s' a' c' (mc s1' v1' a1' nm')) nc' ns' Q) : pm_E (some (L, xs)) 11 pm_mm0 725 [(0, .retAddr 0), (1, .ref 0), (2, .ref 18), (3, .int (iI i))] [] (ch n kd pl s a c (mc s1 v1 a1 nm)) nc ns Q := by
  obtain ⟨⟨hW, hn50, hq50⟩, hS, hf, ⟨h4, h4'⟩, hb, ⟨ho0, ho1⟩, ⟨h14, h14'⟩, hA, hY⟩ := id hc
  have hp0 : pl 0 = 0 := hW.2.2.2.2.2.2
  obtain ⟨hsh, m4, m3, m45, m45', mt⟩ := id hm
  obtain ⟨hN0, hN32, hT⟩ := id hok
  have s0 : s 0 = N := hS.1
  have m0 : s1 0 = N := hsh.1
  refine pm_e_sim pm_a0_725 rfl ?_
  show pm_E _ _ _ 726 [(0, .retAddr 0), (1, .ref 0), (2, .ref 18), (3, .int (iI i))] [.ref 18] _ _ _ _
  refine pm_e_sim pm_a0_726 rfl ?_
  show pm_E _ _ _ 727 [(0, .retAddr 0), (1, .ref 0), (2, .ref 18), (3, .int (iI i))] [.retAddr 0, .ref 18] _ _ _ _
  refine pm_e_sim pm_a0_727 rfl ?_
  show pm_E _ _ _ 728 [(0, .retAddr 0), (1, .ref 0), (2, .ref 18), (3, .int (iI i))] [.int (iI i), .retAddr 0, .ref 18] _ _ _ _
  refine pm_e_sim pm_a0_728 rfl ?_
  refine pm_e_top (y := iI 1) (by decide +kernel) ?_
  show pm_E _ _ _ 729 [(0, .retAddr 0), (1, .ref 0), (2, .ref 18), (3, .int (iI i))] [.int (iI 1), .int (iI i), .retAddr 0, .ref 18] _ _ _ _
  refine pm_e_sim pm_a0_729 rfl ?_
  refine pm_e_top (y := iI (i + 1)) (iI_add _ _) ?_
  show pm_E _ _ _ 730 [(0, .retAddr 0), (1, .ref 0), (2, .ref 18), (3, .int (iI i))] [.int (iI (i + 1)), .retAddr 0, .ref 18] _ _ _ _
  refine pm_e_sld (j := (i + 1).toNat) pm_a0_730 (pm_ix_I (by omega) (by omega) ⟨by omega, by omega⟩) ?_
  refine pm_e_top (y := iI (xv xs i 1)) (iI_of _).symm ?_
  show pm_E _ _ _ 731 [(0, .retAddr 0), (1, .ref 0), (2, .ref 18), (3, .int (iI i))] [.int (iI (xv xs i 1)), .ref 18] _ _ _ _
  refine pm_e_sim pm_a0_731 rfl ?_
  show pm_E _ _ _ 732 [(0, .retAddr 0), (1, .ref 0), (2, .ref 18), (3, .int (iI i))] [.retAddr 0, .int (iI (xv xs i 1)), .ref 18] _ _ _ _
  refine pm_e_sim pm_a0_732 rfl ?_
  show pm_E _ _ _ 733 [(0, .retAddr 0), (1, .ref 0), (2, .ref 18), (3, .int (iI i))] [.int (iI i), .retAddr 0, .int (iI (xv xs i 1)), .ref 18] _ _ _ _
  refine pm_e_sim pm_a0_733 rfl ?_
  refine pm_e_top (y := iI 2) (by decide +kernel) ?_
  show pm_E _ _ _ 734 [(0, .retAddr 0), (1, .ref 0), (2, .ref 18), (3, .int (iI i))] [.int (iI 2), .int (iI i), .retAddr 0, .int (iI (xv xs i 1)), .ref 18] _ _ _ _
  refine pm_e_sim pm_a0_734 rfl ?_
  refine pm_e_top (y := iI (i + 2)) (iI_add _ _) ?_
  show pm_E _ _ _ 735 [(0, .retAddr 0), (1, .ref 0), (2, .ref 18), (3, .int (iI i))] [.int (iI (i + 2)), .retAddr 0, .int (iI (xv xs i 1)), .ref 18] _ _ _ _
  refine pm_e_sld (j := (i + 2).toNat) pm_a0_735 (pm_ix_I (by omega) (by omega) ⟨by omega, by omega⟩) ?_
  refine pm_e_top (y := iI (xv xs i 2)) (iI_of _).symm ?_
  show pm_E _ _ _ 736 [(0, .retAddr 0), (1, .ref 0), (2, .ref 18), (3, .int (iI i))] [.int (iI (xv xs i 2)), .int (iI (xv xs i 1)), .ref 18] _ _ _ _
  rw [ch_mh hW hn50 hq50]
  refine pm_i_callv (k := 18) (T2 := pm_mm212) pm_a0_736 rfl rfl rfl (mh_get (j := 0) kA18_len rfl) ⟨Nat.le_of_ble_eq_true rfl, Nat.le_of_ble_eq_true rfl, rfl, by decide +kernel⟩ ?_
  show pm_E none _ _ 0 [(0, .ref 18), (1, .int (iI (xv xs i 1))), (2, .int (iI (xv xs i 2)))] [] _ _ _ _
  refine M_about kA18_len hin1 hok hsh xv_in xv_in (fun r s1' a1' f0 f4 f1 f2 f3 => ?_)
  · skip
    rw [← ch_mh hW hn50 hq50]
    show pm_E _ _ _ 739 [(0, .retAddr 0), (1, .ref 0), (2, .ref 18), (3, .int (iI i))] [.int (iI r)] _ _ _ _
    refine pm_e_sim pm_a0_739 rfl ?_
    show pm_E _ _ _ 740 [(0, .retAddr 0), (1, .ref 0), (2, .ref 18), (3, .int (iI i))] [] _ _ _ _
    refine pm_e_goto pm_a0_740 rfl ?_
    show pm_E _ _ _ 779 [(0, .retAddr 0), (1, .ref 0), (2, .ref 18), (3, .int (iI i))] [] _ _ _ _
    exact k _ _ _ _ _ _ _ _ _ _ _ _ ⟨N, T, hok, hc, ⟨sh_fr hsh f0 f1 f2, f4.1.trans m4, f3.trans m3, by omega, by omega, tld_m mt f4.2.2.1 f4.2.2.2.1 f4.2.2.2.2⟩, by omega, by omega⟩
set_option maxHeartbeats 4000000 in
set_option maxRecDepth 100000 in
theorem LM_read {L : Nat} {xs : Nat → Int32} {t n nc ns : Nat} {kd pl : Nat → Nat} {s : Nat → Int} {a : Nat → Int → Int} {c : Nat → cdt} {s1 : Nat → Int} {v1 : Int64} {a1 : Nat → Int → Int} {nm : Nat → Int64} {N i : Int} {T : Int → List Int} {Q : Option Value → List va_E → Nat → Nat → Prop} (hi0 : 0 ≤ i) (hi6 : i + 6 ≤ L) (hL : L ≤ 3072) (hok : okT N T) (hc : cI n kd pl s a c N T) (hm : mI s a s1 a1 N T) (hin1 : ∀ i j, in32 (a1 i j)) (hnc : nc ≤ 50 + 12 * (t + 1)) (hns : ns ≤ 194358 + 503 * (t + 1) + wt pl) (k : ∀ n' kd' pl' s' a' c' s1' v1' a1' nm' nc' ns', LI (t + 1) n' kd' pl' s' a' c' s1' a1' nc' ns' → pm_E (some (L, xs)) 11 pm_mm0 779 [(0, .retAddr 0), (1, .ref 0), (2, .ref 18), (3, .int (iI i))] [] (ch n' kd' pl' s' a' c' (mc s1' v1' a1' nm')) nc' ns' Q) : pm_E (some (L, xs)) 11 pm_mm0 646 [(0, .retAddr 0), (1, .ref 0), (2, .ref 18), (3, .int (iI i))] [] (ch n kd pl s a c (mc s1 v1 a1 nm)) nc ns Q := by
  obtain ⟨⟨hW, hn50, hq50⟩, hS, hf, ⟨h4, h4'⟩, hb, ⟨ho0, ho1⟩, ⟨h14, h14'⟩, hA, hY⟩ := id hc
  have hp0 : pl 0 = 0 := hW.2.2.2.2.2.2
  obtain ⟨hsh, m4, m3, m45, m45', mt⟩ := id hm
  obtain ⟨hN0, hN32, hT⟩ := id hok
  have s0 : s 0 = N := hS.1
  have m0 : s1 0 = N := hsh.1
  refine pm_e_sim pm_a0_646 rfl ?_
  show pm_E _ _ _ 647 [(0, .retAddr 0), (1, .ref 0), (2, .ref 18), (3, .int (iI i))] [.ref 18] _ _ _ _
  refine pm_e_sim pm_a0_647 rfl ?_
  show pm_E _ _ _ 648 [(0, .retAddr 0), (1, .ref 0), (2, .ref 18), (3, .int (iI i))] [.retAddr 0, .ref 18] _ _ _ _
  refine pm_e_sim pm_a0_648 rfl ?_
  show pm_E _ _ _ 649 [(0, .retAddr 0), (1, .ref 0), (2, .ref 18), (3, .int (iI i))] [.int (iI i), .retAddr 0, .ref 18] _ _ _ _
  refine pm_e_sim pm_a0_649 rfl ?_
  refine pm_e_top (y := iI 1) (by decide +kernel) ?_
  show pm_E _ _ _ 650 [(0, .retAddr 0), (1, .ref 0), (2, .ref 18), (3, .int (iI i))] [.int (iI 1), .int (iI i), .retAddr 0, .ref 18] _ _ _ _
  refine pm_e_sim pm_a0_650 rfl ?_
  refine pm_e_top (y := iI (i + 1)) (iI_add _ _) ?_
  show pm_E _ _ _ 651 [(0, .retAddr 0), (1, .ref 0), (2, .ref 18), (3, .int (iI i))] [.int (iI (i + 1)), .retAddr 0, .ref 18] _ _ _ _
  refine pm_e_sld (j := (i + 1).toNat) pm_a0_651 (pm_ix_I (by omega) (by omega) ⟨by omega, by omega⟩) ?_
  refine pm_e_top (y := iI (xv xs i 1)) (iI_of _).symm ?_
  show pm_E _ _ _ 652 [(0, .retAddr 0), (1, .ref 0), (2, .ref 18), (3, .int (iI i))] [.int (iI (xv xs i 1)), .ref 18] _ _ _ _
  refine pm_e_sim pm_a0_652 rfl ?_
  show pm_E _ _ _ 653 [(0, .retAddr 0), (1, .ref 0), (2, .ref 18), (3, .int (iI i))] [.retAddr 0, .int (iI (xv xs i 1)), .ref 18] _ _ _ _
  refine pm_e_sim pm_a0_653 rfl ?_
  show pm_E _ _ _ 654 [(0, .retAddr 0), (1, .ref 0), (2, .ref 18), (3, .int (iI i))] [.int (iI i), .retAddr 0, .int (iI (xv xs i 1)), .ref 18] _ _ _ _
  refine pm_e_sim pm_a0_654 rfl ?_
  refine pm_e_top (y := iI 2) (by decide +kernel) ?_
  show pm_E _ _ _ 655 [(0, .retAddr 0), (1, .ref 0), (2, .ref 18), (3, .int (iI i))] [.int (iI 2), .int (iI i), .retAddr 0, .int (iI (xv xs i 1)), .ref 18] _ _ _ _
  refine pm_e_sim pm_a0_655 rfl ?_
  refine pm_e_top (y := iI (i + 2)) (iI_add _ _) ?_
  show pm_E _ _ _ 656 [(0, .retAddr 0), (1, .ref 0), (2, .ref 18), (3, .int (iI i))] [.int (iI (i + 2)), .retAddr 0, .int (iI (xv xs i 1)), .ref 18] _ _ _ _
  refine pm_e_sld (j := (i + 2).toNat) pm_a0_656 (pm_ix_I (by omega) (by omega) ⟨by omega, by omega⟩) ?_
  refine pm_e_top (y := iI (xv xs i 2)) (iI_of _).symm ?_
  show pm_E _ _ _ 657 [(0, .retAddr 0), (1, .ref 0), (2, .ref 18), (3, .int (iI i))] [.int (iI (xv xs i 2)), .int (iI (xv xs i 1)), .ref 18] _ _ _ _
  rw [ch_mh hW hn50 hq50]
  refine pm_i_callv (k := 18) (T2 := pm_mm201) pm_a0_657 rfl rfl rfl (mh_get (j := 0) kA18_len rfl) ⟨Nat.le_of_ble_eq_true rfl, Nat.le_of_ble_eq_true rfl, rfl, by decide +kernel⟩ ?_
  show pm_E none _ _ 0 [(0, .ref 18), (1, .int (iI (xv xs i 1))), (2, .int (iI (xv xs i 2)))] [] _ _ _ _
  refine M_read kA18_len hin1 hok hsh xv_in xv_in (fun y9 => ?_) (fun x0 x1 w0 w1 y9 => ?_) (fun x0 x1 w0 w1 y9 r s1' a1' hrr f0 f4 f1 f2 f3 => ?_)
  · skip
    rw [← ch_mh hW hn50 hq50]
    show pm_E _ _ _ 660 [(0, .retAddr 0), (1, .ref 0), (2, .ref 18), (3, .int (iI i))] [.int (iI (-1))] _ _ _ _
    refine pm_e_sim pm_a0_660 rfl ?_
    show pm_E _ _ _ 661 [(0, .retAddr 0), (1, .ref 0), (2, .ref 18), (3, .int (iI i))] [] _ _ _ _
    refine pm_e_goto pm_a0_661 rfl ?_
    show pm_E _ _ _ 779 [(0, .retAddr 0), (1, .ref 0), (2, .ref 18), (3, .int (iI i))] [] _ _ _ _
    exact k _ _ _ _ _ _ _ _ _ _ _ _ ⟨N, T, hok, hc, hm, by omega, by omega⟩
  · skip
    rw [← ch_mh hW hn50 hq50]
    show pm_E _ _ _ 660 [(0, .retAddr 0), (1, .ref 0), (2, .ref 18), (3, .int (iI i))] [.int (iI (-3))] _ _ _ _
    refine pm_e_sim pm_a0_660 rfl ?_
    show pm_E _ _ _ 661 [(0, .retAddr 0), (1, .ref 0), (2, .ref 18), (3, .int (iI i))] [] _ _ _ _
    refine pm_e_goto pm_a0_661 rfl ?_
    show pm_E _ _ _ 779 [(0, .retAddr 0), (1, .ref 0), (2, .ref 18), (3, .int (iI i))] [] _ _ _ _
    exact k _ _ _ _ _ _ _ _ _ _ _ _ ⟨N, T, hok, hc, hm, by omega, by omega⟩
  · skip
    rw [← ch_mh hW hn50 hq50]
    show pm_E _ _ _ 660 [(0, .retAddr 0), (1, .ref 0), (2, .ref 18), (3, .int (iI i))] [.int (iI r)] _ _ _ _
    refine pm_e_sim pm_a0_660 rfl ?_
    show pm_E _ _ _ 661 [(0, .retAddr 0), (1, .ref 0), (2, .ref 18), (3, .int (iI i))] [] _ _ _ _
    refine pm_e_goto pm_a0_661 rfl ?_
    show pm_E _ _ _ 779 [(0, .retAddr 0), (1, .ref 0), (2, .ref 18), (3, .int (iI i))] [] _ _ _ _
    exact k _ _ _ _ _ _ _ _ _ _ _ _ ⟨N, T, hok, hc, ⟨sh_fr hsh f0 f1 f2, f4.1.trans m4, f3.trans m3, by omega, by omega, tld_m mt f4.2.2.1 f4.2.2.2.1 f4.2.2.2.2⟩, by omega, by omega⟩
set_option maxHeartbeats 4000000 in
set_option maxRecDepth 100000 in
theorem LM_redex {L : Nat} {xs : Nat → Int32} {t n nc ns : Nat} {kd pl : Nat → Nat} {s : Nat → Int} {a : Nat → Int → Int} {c : Nat → cdt} {s1 : Nat → Int} {v1 : Int64} {a1 : Nat → Int → Int} {nm : Nat → Int64} {N i : Int} {T : Int → List Int} {Q : Option Value → List va_E → Nat → Nat → Prop} (hi0 : 0 ≤ i) (hi6 : i + 6 ≤ L) (hL : L ≤ 3072) (hok : okT N T) (hc : cI n kd pl s a c N T) (hm : mI s a s1 a1 N T) (hin1 : ∀ i j, in32 (a1 i j)) (hnc : nc ≤ 50 + 12 * (t + 1)) (hns : ns ≤ 194358 + 503 * (t + 1) + wt pl) (k : ∀ n' kd' pl' s' a' c' s1' v1' a1' nm' nc' ns', LI (t + 1) n' kd' pl' s' a' c' s1' a1' nc' ns' → pm_E (some (L, xs)) 11 pm_mm0 779 [(0, .retAddr 0), (1, .ref 0), (2, .ref 18), (3, .int (iI i))] [] (ch n' kd' pl' s' a' c' (mc s1' v1' a1' nm')) nc' ns' Q) : pm_E (some (L, xs)) 11 pm_mm0 544 [(0, .retAddr 0), (1, .ref 0), (2, .ref 18), (3, .int (iI i))] [] (ch n kd pl s a c (mc s1 v1 a1 nm)) nc ns Q := by
  obtain ⟨⟨hW, hn50, hq50⟩, hS, hf, ⟨h4, h4'⟩, hb, ⟨ho0, ho1⟩, ⟨h14, h14'⟩, hA, hY⟩ := id hc
  have hp0 : pl 0 = 0 := hW.2.2.2.2.2.2
  obtain ⟨hsh, m4, m3, m45, m45', mt⟩ := id hm
  obtain ⟨hN0, hN32, hT⟩ := id hok
  have s0 : s 0 = N := hS.1
  have m0 : s1 0 = N := hsh.1
  refine pm_e_sim pm_a0_544 rfl ?_
  show pm_E _ _ _ 545 [(0, .retAddr 0), (1, .ref 0), (2, .ref 18), (3, .int (iI i))] [.ref 18] _ _ _ _
  refine pm_e_sim pm_a0_545 rfl ?_
  show pm_E _ _ _ 546 [(0, .retAddr 0), (1, .ref 0), (2, .ref 18), (3, .int (iI i))] [.retAddr 0, .ref 18] _ _ _ _
  refine pm_e_sim pm_a0_546 rfl ?_
  show pm_E _ _ _ 547 [(0, .retAddr 0), (1, .ref 0), (2, .ref 18), (3, .int (iI i))] [.int (iI i), .retAddr 0, .ref 18] _ _ _ _
  refine pm_e_sim pm_a0_547 rfl ?_
  refine pm_e_top (y := iI 1) (by decide +kernel) ?_
  show pm_E _ _ _ 548 [(0, .retAddr 0), (1, .ref 0), (2, .ref 18), (3, .int (iI i))] [.int (iI 1), .int (iI i), .retAddr 0, .ref 18] _ _ _ _
  refine pm_e_sim pm_a0_548 rfl ?_
  refine pm_e_top (y := iI (i + 1)) (iI_add _ _) ?_
  show pm_E _ _ _ 549 [(0, .retAddr 0), (1, .ref 0), (2, .ref 18), (3, .int (iI i))] [.int (iI (i + 1)), .retAddr 0, .ref 18] _ _ _ _
  refine pm_e_sld (j := (i + 1).toNat) pm_a0_549 (pm_ix_I (by omega) (by omega) ⟨by omega, by omega⟩) ?_
  refine pm_e_top (y := iI (xv xs i 1)) (iI_of _).symm ?_
  show pm_E _ _ _ 550 [(0, .retAddr 0), (1, .ref 0), (2, .ref 18), (3, .int (iI i))] [.int (iI (xv xs i 1)), .ref 18] _ _ _ _
  refine pm_e_sim pm_a0_550 rfl ?_
  show pm_E _ _ _ 551 [(0, .retAddr 0), (1, .ref 0), (2, .ref 18), (3, .int (iI i))] [.retAddr 0, .int (iI (xv xs i 1)), .ref 18] _ _ _ _
  refine pm_e_sim pm_a0_551 rfl ?_
  show pm_E _ _ _ 552 [(0, .retAddr 0), (1, .ref 0), (2, .ref 18), (3, .int (iI i))] [.int (iI i), .retAddr 0, .int (iI (xv xs i 1)), .ref 18] _ _ _ _
  refine pm_e_sim pm_a0_552 rfl ?_
  refine pm_e_top (y := iI 2) (by decide +kernel) ?_
  show pm_E _ _ _ 553 [(0, .retAddr 0), (1, .ref 0), (2, .ref 18), (3, .int (iI i))] [.int (iI 2), .int (iI i), .retAddr 0, .int (iI (xv xs i 1)), .ref 18] _ _ _ _
  refine pm_e_sim pm_a0_553 rfl ?_
  refine pm_e_top (y := iI (i + 2)) (iI_add _ _) ?_
  show pm_E _ _ _ 554 [(0, .retAddr 0), (1, .ref 0), (2, .ref 18), (3, .int (iI i))] [.int (iI (i + 2)), .retAddr 0, .int (iI (xv xs i 1)), .ref 18] _ _ _ _
  refine pm_e_sld (j := (i + 2).toNat) pm_a0_554 (pm_ix_I (by omega) (by omega) ⟨by omega, by omega⟩) ?_
  refine pm_e_top (y := iI (xv xs i 2)) (iI_of _).symm ?_
  show pm_E _ _ _ 555 [(0, .retAddr 0), (1, .ref 0), (2, .ref 18), (3, .int (iI i))] [.int (iI (xv xs i 2)), .int (iI (xv xs i 1)), .ref 18] _ _ _ _
  rw [ch_mh hW hn50 hq50]
  refine pm_i_callv (k := 18) (T2 := pm_mm191) pm_a0_555 rfl rfl rfl (mh_get (j := 0) kA18_len rfl) ⟨Nat.le_of_ble_eq_true rfl, Nat.le_of_ble_eq_true rfl, rfl, by decide +kernel⟩ ?_
  show pm_E none _ _ 0 [(0, .ref 18), (1, .int (iI (xv xs i 1))), (2, .int (iI (xv xs i 2)))] [] _ _ _ _
  refine M_redex kA18_len hin1 hok hsh xv_in xv_in (fun y9 => ?_) (fun x0 x1 w0 w1 r s1' a1' hnr f0 f4 f1 f2 f3 => ?_)
  · skip
    rw [← ch_mh hW hn50 hq50]
    show pm_E _ _ _ 558 [(0, .retAddr 0), (1, .ref 0), (2, .ref 18), (3, .int (iI i))] [.int (iI (-1))] _ _ _ _
    refine pm_e_sim pm_a0_558 rfl ?_
    show pm_E _ _ _ 559 [(0, .retAddr 0), (1, .ref 0), (2, .ref 18), (3, .int (iI i))] [] _ _ _ _
    refine pm_e_goto pm_a0_559 rfl ?_
    show pm_E _ _ _ 779 [(0, .retAddr 0), (1, .ref 0), (2, .ref 18), (3, .int (iI i))] [] _ _ _ _
    exact k _ _ _ _ _ _ _ _ _ _ _ _ ⟨N, T, hok, hc, hm, by omega, by omega⟩
  · skip
    rw [← ch_mh hW hn50 hq50]
    show pm_E _ _ _ 558 [(0, .retAddr 0), (1, .ref 0), (2, .ref 18), (3, .int (iI i))] [.int (iI r)] _ _ _ _
    refine pm_e_sim pm_a0_558 rfl ?_
    show pm_E _ _ _ 559 [(0, .retAddr 0), (1, .ref 0), (2, .ref 18), (3, .int (iI i))] [] _ _ _ _
    refine pm_e_goto pm_a0_559 rfl ?_
    show pm_E _ _ _ 779 [(0, .retAddr 0), (1, .ref 0), (2, .ref 18), (3, .int (iI i))] [] _ _ _ _
    exact k _ _ _ _ _ _ _ _ _ _ _ _ ⟨N, T, hok, hc, ⟨sh_fr hsh f0 f1 f2, f4.1.trans m4, f3.trans m3, by omega, by omega, tld_m mt f4.2.2.1 f4.2.2.2.1 f4.2.2.2.2⟩, by omega, by omega⟩
set_option maxHeartbeats 4000000 in
set_option maxRecDepth 100000 in
theorem LM_number {L : Nat} {xs : Nat → Int32} {t n nc ns : Nat} {kd pl : Nat → Nat} {s : Nat → Int} {a : Nat → Int → Int} {c : Nat → cdt} {s1 : Nat → Int} {v1 : Int64} {a1 : Nat → Int → Int} {nm : Nat → Int64} {N i : Int} {T : Int → List Int} {Q : Option Value → List va_E → Nat → Nat → Prop} (hi0 : 0 ≤ i) (hi6 : i + 6 ≤ L) (hL : L ≤ 3072) (hok : okT N T) (hc : cI n kd pl s a c N T) (hm : mI s a s1 a1 N T) (hin1 : ∀ i j, in32 (a1 i j)) (hnc : nc ≤ 50 + 12 * (t + 1)) (hns : ns ≤ 194358 + 503 * (t + 1) + wt pl) (k : ∀ n' kd' pl' s' a' c' s1' v1' a1' nm' nc' ns', LI (t + 1) n' kd' pl' s' a' c' s1' a1' nc' ns' → pm_E (some (L, xs)) 11 pm_mm0 779 [(0, .retAddr 0), (1, .ref 0), (2, .ref 18), (3, .int (iI i))] [] (ch n' kd' pl' s' a' c' (mc s1' v1' a1' nm')) nc' ns' Q) : pm_E (some (L, xs)) 11 pm_mm0 618 [(0, .retAddr 0), (1, .ref 0), (2, .ref 18), (3, .int (iI i))] [] (ch n kd pl s a c (mc s1 v1 a1 nm)) nc ns Q := by
  obtain ⟨⟨hW, hn50, hq50⟩, hS, hf, ⟨h4, h4'⟩, hb, ⟨ho0, ho1⟩, ⟨h14, h14'⟩, hA, hY⟩ := id hc
  have hp0 : pl 0 = 0 := hW.2.2.2.2.2.2
  obtain ⟨hsh, m4, m3, m45, m45', mt⟩ := id hm
  obtain ⟨hN0, hN32, hT⟩ := id hok
  have s0 : s 0 = N := hS.1
  have m0 : s1 0 = N := hsh.1
  refine pm_e_sim pm_a0_618 rfl ?_
  show pm_E _ _ _ 619 [(0, .retAddr 0), (1, .ref 0), (2, .ref 18), (3, .int (iI i))] [.ref 18] _ _ _ _
  refine pm_e_sim pm_a0_619 rfl ?_
  show pm_E _ _ _ 620 [(0, .retAddr 0), (1, .ref 0), (2, .ref 18), (3, .int (iI i))] [.retAddr 0, .ref 18] _ _ _ _
  refine pm_e_sim pm_a0_620 rfl ?_
  show pm_E _ _ _ 621 [(0, .retAddr 0), (1, .ref 0), (2, .ref 18), (3, .int (iI i))] [.int (iI i), .retAddr 0, .ref 18] _ _ _ _
  refine pm_e_sim pm_a0_621 rfl ?_
  refine pm_e_top (y := iI 1) (by decide +kernel) ?_
  show pm_E _ _ _ 622 [(0, .retAddr 0), (1, .ref 0), (2, .ref 18), (3, .int (iI i))] [.int (iI 1), .int (iI i), .retAddr 0, .ref 18] _ _ _ _
  refine pm_e_sim pm_a0_622 rfl ?_
  refine pm_e_top (y := iI (i + 1)) (iI_add _ _) ?_
  show pm_E _ _ _ 623 [(0, .retAddr 0), (1, .ref 0), (2, .ref 18), (3, .int (iI i))] [.int (iI (i + 1)), .retAddr 0, .ref 18] _ _ _ _
  refine pm_e_sld (j := (i + 1).toNat) pm_a0_623 (pm_ix_I (by omega) (by omega) ⟨by omega, by omega⟩) ?_
  refine pm_e_top (y := iI (xv xs i 1)) (iI_of _).symm ?_
  show pm_E _ _ _ 624 [(0, .retAddr 0), (1, .ref 0), (2, .ref 18), (3, .int (iI i))] [.int (iI (xv xs i 1)), .ref 18] _ _ _ _
  rw [ch_mh hW hn50 hq50]
  refine pm_i_callv (k := 18) (T2 := pm_mm199) pm_a0_624 rfl rfl rfl (mh_get (j := 0) kA18_len rfl) ⟨Nat.le_of_ble_eq_true rfl, Nat.le_of_ble_eq_true rfl, rfl, by decide +kernel⟩ ?_
  show pm_E none _ _ 0 [(0, .ref 18), (1, .int (iI (xv xs i 1)))] [] _ _ _ _
  refine M_number kA18_len hin1 hok hsh xv_in (fun y9 => ?_) (fun x0 x1 r s1' a1' hnr f0 f4 f1 f2 f3 => ?_)
  · skip
    rw [← ch_mh hW hn50 hq50]
    show pm_E _ _ _ 627 [(0, .retAddr 0), (1, .ref 0), (2, .ref 18), (3, .int (iI i))] [.int (iI (-1))] _ _ _ _
    refine pm_e_sim pm_a0_627 rfl ?_
    show pm_E _ _ _ 628 [(0, .retAddr 0), (1, .ref 0), (2, .ref 18), (3, .int (iI i))] [] _ _ _ _
    refine pm_e_goto pm_a0_628 rfl ?_
    show pm_E _ _ _ 779 [(0, .retAddr 0), (1, .ref 0), (2, .ref 18), (3, .int (iI i))] [] _ _ _ _
    exact k _ _ _ _ _ _ _ _ _ _ _ _ ⟨N, T, hok, hc, hm, by omega, by omega⟩
  · skip
    rw [← ch_mh hW hn50 hq50]
    show pm_E _ _ _ 627 [(0, .retAddr 0), (1, .ref 0), (2, .ref 18), (3, .int (iI i))] [.int (iI r)] _ _ _ _
    refine pm_e_sim pm_a0_627 rfl ?_
    show pm_E _ _ _ 628 [(0, .retAddr 0), (1, .ref 0), (2, .ref 18), (3, .int (iI i))] [] _ _ _ _
    refine pm_e_goto pm_a0_628 rfl ?_
    show pm_E _ _ _ 779 [(0, .retAddr 0), (1, .ref 0), (2, .ref 18), (3, .int (iI i))] [] _ _ _ _
    exact k _ _ _ _ _ _ _ _ _ _ _ _ ⟨N, T, hok, hc, ⟨sh_fr hsh f0 f1 f2, f4.1.trans m4, f3.trans m3, by omega, by omega, tld_m mt f4.2.2.1 f4.2.2.2.1 f4.2.2.2.2⟩, by omega, by omega⟩
set_option maxHeartbeats 4000000 in
set_option maxRecDepth 100000 in
theorem LM_typed {L : Nat} {xs : Nat → Int32} {t n nc ns : Nat} {kd pl : Nat → Nat} {s : Nat → Int} {a : Nat → Int → Int} {c : Nat → cdt} {s1 : Nat → Int} {v1 : Int64} {a1 : Nat → Int → Int} {nm : Nat → Int64} {N i : Int} {T : Int → List Int} {Q : Option Value → List va_E → Nat → Nat → Prop} (hi0 : 0 ≤ i) (hi6 : i + 6 ≤ L) (hL : L ≤ 3072) (hok : okT N T) (hc : cI n kd pl s a c N T) (hm : mI s a s1 a1 N T) (hin1 : ∀ i j, in32 (a1 i j)) (hnc : nc ≤ 50 + 12 * (t + 1)) (hns : ns ≤ 194358 + 503 * (t + 1) + wt pl) (k : ∀ n' kd' pl' s' a' c' s1' v1' a1' nm' nc' ns', LI (t + 1) n' kd' pl' s' a' c' s1' a1' nc' ns' → pm_E (some (L, xs)) 11 pm_mm0 779 [(0, .retAddr 0), (1, .ref 0), (2, .ref 18), (3, .int (iI i))] [] (ch n' kd' pl' s' a' c' (mc s1' v1' a1' nm')) nc' ns' Q) : pm_E (some (L, xs)) 11 pm_mm0 674 [(0, .retAddr 0), (1, .ref 0), (2, .ref 18), (3, .int (iI i))] [] (ch n kd pl s a c (mc s1 v1 a1 nm)) nc ns Q := by
  obtain ⟨⟨hW, hn50, hq50⟩, hS, hf, ⟨h4, h4'⟩, hb, ⟨ho0, ho1⟩, ⟨h14, h14'⟩, hA, hY⟩ := id hc
  have hp0 : pl 0 = 0 := hW.2.2.2.2.2.2
  obtain ⟨hsh, m4, m3, m45, m45', mt⟩ := id hm
  obtain ⟨hN0, hN32, hT⟩ := id hok
  have s0 : s 0 = N := hS.1
  have m0 : s1 0 = N := hsh.1
  refine pm_e_sim pm_a0_674 rfl ?_
  show pm_E _ _ _ 675 [(0, .retAddr 0), (1, .ref 0), (2, .ref 18), (3, .int (iI i))] [.ref 18] _ _ _ _
  refine pm_e_sim pm_a0_675 rfl ?_
  show pm_E _ _ _ 676 [(0, .retAddr 0), (1, .ref 0), (2, .ref 18), (3, .int (iI i))] [.retAddr 0, .ref 18] _ _ _ _
  refine pm_e_sim pm_a0_676 rfl ?_
  show pm_E _ _ _ 677 [(0, .retAddr 0), (1, .ref 0), (2, .ref 18), (3, .int (iI i))] [.int (iI i), .retAddr 0, .ref 18] _ _ _ _
  refine pm_e_sim pm_a0_677 rfl ?_
  refine pm_e_top (y := iI 1) (by decide +kernel) ?_
  show pm_E _ _ _ 678 [(0, .retAddr 0), (1, .ref 0), (2, .ref 18), (3, .int (iI i))] [.int (iI 1), .int (iI i), .retAddr 0, .ref 18] _ _ _ _
  refine pm_e_sim pm_a0_678 rfl ?_
  refine pm_e_top (y := iI (i + 1)) (iI_add _ _) ?_
  show pm_E _ _ _ 679 [(0, .retAddr 0), (1, .ref 0), (2, .ref 18), (3, .int (iI i))] [.int (iI (i + 1)), .retAddr 0, .ref 18] _ _ _ _
  refine pm_e_sld (j := (i + 1).toNat) pm_a0_679 (pm_ix_I (by omega) (by omega) ⟨by omega, by omega⟩) ?_
  refine pm_e_top (y := iI (xv xs i 1)) (iI_of _).symm ?_
  show pm_E _ _ _ 680 [(0, .retAddr 0), (1, .ref 0), (2, .ref 18), (3, .int (iI i))] [.int (iI (xv xs i 1)), .ref 18] _ _ _ _
  rw [ch_mh hW hn50 hq50]
  refine pm_i_callv (k := 18) (T2 := pm_mm202) pm_a0_680 rfl rfl rfl (mh_get (j := 0) kA18_len rfl) ⟨Nat.le_of_ble_eq_true rfl, Nat.le_of_ble_eq_true rfl, rfl, by decide +kernel⟩ ?_
  show pm_E none _ _ 0 [(0, .ref 18), (1, .int (iI (xv xs i 1)))] [] _ _ _ _
  refine M_typed kA18_len hin1 hok hsh xv_in (fun r s1' a1' f0 f4 f5 f1 f2 f3 => ?_)
  · skip
    rw [← ch_mh hW hn50 hq50]
    show pm_E _ _ _ 683 [(0, .retAddr 0), (1, .ref 0), (2, .ref 18), (3, .int (iI i))] [.int (iI r)] _ _ _ _
    refine pm_e_sim pm_a0_683 rfl ?_
    show pm_E _ _ _ 684 [(0, .retAddr 0), (1, .ref 0), (2, .ref 18), (3, .int (iI i))] [] _ _ _ _
    refine pm_e_goto pm_a0_684 rfl ?_
    show pm_E _ _ _ 779 [(0, .retAddr 0), (1, .ref 0), (2, .ref 18), (3, .int (iI i))] [] _ _ _ _
    exact k _ _ _ _ _ _ _ _ _ _ _ _ ⟨N, T, hok, hc, ⟨sh_fr hsh f0 f1 f2, f4.1.trans m4, f3.trans m3, by omega, by omega, tld_m mt f4.2.1 f4.2.2.1 f4.2.2.2⟩, by omega, by omega⟩
