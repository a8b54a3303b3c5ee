/-! THE CLASS's typing from the left, as it lays its nodes: pure -/
def TI (g D : Int → Int) (n : Int) (TY : List Int → List Int → Prop) (K : Int) (F G lk rt bn : Int → Int) (ws : List Int) (p : Int) : Prop := GC K F G lk rt ∧ 2 ≤ K ∧ 2 * K ≤ 11 * p + 11 - 7 * ws.length ∧ (∀ x ∈ ws, 0 ≤ x ∧ x < K) ∧ (∀ q, p ≤ q → q < n → D q ≤ D p → ∀ d, 0 ≤ d → d < D q → 0 ≤ bn d ∧ bn d < K) ∧ FO9 g D n ws.length p ∧ CI9 g (fun q => cxB bn (D q)) n TY (SOL K (-1) F G rt) ws p
section
variable {g D : Int → Int} {n : Int} {TY : List Int → List Int → Prop} {K K1 : Int} {F G lk rt bn F1 G1 lk1 rt1 : Int → Int} {ws : List Int} {w p r : Int} {S1 S2 S3 : (Int → List Int) → Prop}
theorem TI_cx (h : ∀ q, p ≤ q → q < n → D q ≤ D p → ∀ d, 0 ≤ d → d < D q → 0 ≤ bn d ∧ bn d < K) : ∀ q, p ≤ q → q < n → D q ≤ D p → ∀ x ∈ (fun q => cxB bn (D q)) q, 0 ≤ x ∧ x < K := fun q a b c x hx => by
  obtain ⟨d, d0, d1, e⟩ := cxB_mem hx
  rw [e]; exact h q a b c d d0 d1
theorem TI_leaf (h : TI g D n TY K F G lk rt bn (w :: ws) p) (h2 : 2 ≤ g p) (hK : K ≤ K1) (hK2 : K1 ≤ K + 9) (hG : GC K1 F1 G1 lk1 rt1) (ha : ∀ t, SOL K1 (-1) F1 G1 rt1 t → SOL K (-1) F G rt t ∧ lt9 (g p) ((cxB bn (D p)).map t) (t 1) (t w)) (hb : ∀ t, SOL K (-1) F G rt t → lt9 (g p) ((cxB bn (D p)).map t) (t 1) (t w) → ∃ t', SOL K1 (-1) F1 G1 rt1 t' ∧ ∀ k, 0 ≤ k → k < K → t' k = t k) : TI g D n TY K1 F1 G1 lk1 rt1 bn ws (p + 1) := by
  obtain ⟨h1, hK0, hc, hw, hbn, hf, hC⟩ := h
  have hf1 : FO9 g D n (ws.length + 1) p := hf
  obtain ⟨f1, f2⟩ := FO9_leaf hf1 h2
  refine ⟨hG, by omega, ?_, fun x hx => ?_, fun q a b c d d0 d1 => ?_, f1, CI_leaf hC h2 hf1 hK0 (fun x hx => hw x (List.mem_cons_of_mem _ hx)) (TI_cx hbn) ha hb⟩
  · rw [List.length_cons] at hc; omega
  · have := hw x (List.mem_cons_of_mem _ hx); omega
  · have hle : D (p + 1) ≤ D p := by
      cases ws with
      | nil => exact absurd (show p + 1 = n from f1) (by omega)
      | cons v vs => exact f2 (by simp)
    have := hbn q (by omega) b (by omega) d d0 d1
    omega
theorem TI_let (h : TI g D n TY K F G lk rt bn (w :: ws) p) (h2 : 2 ≤ g p) (h3 : g p ≤ 6) (hK : K ≤ K1) (hK2 : K1 ≤ K + 9) (hG : GC K1 F1 G1 lk1 rt1) (o : opL (SOL K (-1) F G rt) S1 K (g p) 1 r) (hj : ∀ t, SOL K1 (-1) F1 G1 rt1 t ↔ (S1 t ∧ t w = t r)) : TI g D n TY K1 F1 G1 lk1 rt1 bn ws (p + 1) := by
  have hw := h.2.2.2.1 w List.mem_cons_self
  refine TI_leaf h h2 hK hK2 hG (fun t z => ?_) (fun t z y => ?_)
  · obtain ⟨z1, z2⟩ := (hj t).mp z
    rw [z2]
    exact o.1 t _ z1
  · obtain ⟨t', y1, y2, y3⟩ := o.2 t (t w) z (lt9_G (by omega) y)
    exact ⟨t', (hj t').mpr ⟨y1, by rw [y3, y2 w hw.1 hw.2]⟩, y2⟩
theorem TI_var (h : TI g D n TY K F G lk rt bn (w :: ws) p) (h2 : 10 ≤ g p) (h3 : g p - 10 < D p) (hr : r = bn (D p - 1 - (g p - 10))) (hG : GC K F G lk1 rt1) (hj : ∀ t, SOL K (-1) F G rt1 t ↔ (SOL K (-1) F G rt t ∧ t w = t r)) : TI g D n TY K F G lk1 rt1 bn ws (p + 1) := by
  have e : ∀ t : Int → List Int, ((cxB bn (D p)).map t)[(g p - 10).toNat]? = some (t r) := fun t => by
    rw [List.getElem?_map, cxB_get (by omega) h3, hr]
    rfl
  refine TI_leaf h (by omega) (Int.le_refl _) (by omega) hG (fun t z => ?_) (fun t z y => ⟨t, (hj t).mpr ⟨z, ?_⟩, fun _ _ _ => rfl⟩)
  · obtain ⟨z1, z2⟩ := (hj t).mp z
    exact ⟨z1, (lt9_v h2).mpr (by rw [z2]; exact e t)⟩
  · have := (lt9_v h2).mp y
    rw [e t] at this
    exact (Option.some.inj this).symm
theorem TI_app (h : TI g D n TY K F G lk rt bn (w :: ws) p) (h0 : g p = 0) (hG : GC (K + 2) F1 G1 lk1 rt1) (o1 : opA (SOL K (-1) F G rt) S1 K) (o2 : opR S1 (SOL (K + 2) (-1) F1 G1 rt1) (K + 1) K w) : TI g D n TY (K + 2) F1 G1 lk1 rt1 bn ((K + 1) :: K :: ws) (p + 1) := by
  obtain ⟨h1, hK0, hc, hw, hbn, hf, hC⟩ := h
  have hf1 : FO9 g D n (ws.length + 1) p := hf
  obtain ⟨f1, f2, f3⟩ := FO9_app hf1 h0
  refine ⟨hG, by omega, ?_, fun x hx => ?_, fun q a b c d d0 d1 => ?_, f1, CI_app hC h0 hf1 hK0 hw (TI_cx hbn) (fun q q' e => by show cxB bn (D q) = cxB bn (D q'); rw [e]) (fun t z => ?_) (fun t a0 z ta => ?_)⟩
  · rw [List.length_cons] at hc; rw [List.length_cons, List.length_cons]; omega
  · rcases List.mem_cons.mp hx with hx | hx
    · omega
    · rcases List.mem_cons.mp hx with hx | hx
      · omega
      · have := hw x (List.mem_cons_of_mem _ hx); omega
  · have := hbn q (by omega) b (by omega) d d0 d1
    omega
  · obtain ⟨z1, z2⟩ := (o2.1 t).mp z
    obtain ⟨z3, z4⟩ := (o1.1 t).mp z1
    exact ⟨z3, z4, z2⟩
  · obtain ⟨t1, y1, y2, y3⟩ := o1.2 t a0 z ta
    obtain ⟨t2, x1, x2⟩ := o2.2 t1 y1
    exact ⟨t2, x1, fun k c1 c2 => by rw [x2 k c1 (by omega), y2 k c1 c2], by rw [x2 K (by omega) (by omega), y3]⟩
theorem TI_lam (h : TI g D n TY K F G lk rt bn (w :: ws) p) (h0 : g p = 1) (hG : GC (K + 3) F1 G1 lk1 rt1) (o1 : opA (SOL K (-1) F G rt) S1 K) (o2 : opA S1 S2 (K + 1)) (o3 : opR S2 S3 (K + 2) K (K + 1)) (hj : ∀ t, SOL (K + 3) (-1) F1 G1 rt1 t ↔ (S3 t ∧ t w = t (K + 2))) : TI g D n TY (K + 3) F1 G1 lk1 rt1 (updI bn (D p) K) ((K + 1) :: ws) (p + 1) := by
  obtain ⟨h1, hK0, hc, hw, hbn, hf, hC⟩ := h
  have hf1 : FO9 g D n (ws.length + 1) p := hf
  obtain ⟨f1, f2⟩ := FO9_lam hf1 h0
  have d0 : 0 ≤ D p := by obtain ⟨_, _, _, _, _, _, _, _, z, _⟩ := hf1; exact z
  have hw0 := hw w List.mem_cons_self
  refine ⟨hG, by omega, ?_, fun x hx => ?_, fun q a b c d e0 e1 => ?_, f1, CI_lam (b := K) hC h0 hf1 hK0 hw (TI_cx hbn) ?_ (fun q a b c => ?_) (fun t z => ?_) (fun t a0 b0 z ta tb e => ?_) (fun t z => SOL_ty z w hw0.1 hw0.2)⟩
  · rw [List.length_cons] at hc; rw [List.length_cons]; omega
  · rcases List.mem_cons.mp hx with hx | hx
    · omega
    · have := hw x (List.mem_cons_of_mem _ hx); omega
  · by_cases cd : d = D p
    · rw [cd, updI_s]; omega
    · rw [updI_n _ _ cd]
      have := hbn p (Int.le_refl _) (by obtain ⟨_, z, _⟩ := hf1; exact z) (Int.le_refl _) d e0 (by omega)
      omega
  · show cxB (updI bn (D p) K) (D (p + 1)) = K :: cxB bn (D p)
    rw [f2]
    exact cxB_s d0 (fun q a b => updI_n _ _ (by omega)) (updI_s _ _ _)
  · show cxB (updI bn (D p) K) (D q) = cxB bn (D q)
    exact cxB_eq (fun d e0 e1 => updI_n _ _ (by omega))
  · obtain ⟨z3, z4⟩ := (hj t).mp z
    obtain ⟨z2, y3⟩ := (o3.1 t).mp z3
    obtain ⟨z1, y2⟩ := (o2.1 t).mp z2
    obtain ⟨z0, y1⟩ := (o1.1 t).mp z1
    exact ⟨z0, y1, by rw [z4, y3]⟩
  · obtain ⟨t1, y1, y2, y3⟩ := o1.2 t a0 z ta
    obtain ⟨t2, x1, x2, x3⟩ := o2.2 t1 b0 y1 tb
    obtain ⟨t3, u1, u2⟩ := o3.2 t2 x1
    have ek : ∀ k, 0 ≤ k → k < K → t3 k = t k := fun k c1 c2 => by rw [u2 k c1 (by omega), x2 k c1 (by omega), y2 k c1 c2]
    have ea : t3 K = a0 := by rw [u2 K (by omega) (by omega), x2 K (by omega) (by omega), y3]
    have eb : t3 (K + 1) = b0 := by rw [u2 _ (by omega) (by omega), x3]
    refine ⟨t3, (hj t3).mpr ⟨u1, ?_⟩, ek, ea, eb⟩
    rw [((o3.1 t3).mp u1).2, ea, eb, ek w hw0.1 hw0.2, e]
theorem TI_beg {S0 : (Int → List Int) → Prop} (hf : FO9 g D n 1 0) (hd : D 0 = 0) (hG : GC 2 F G lk rt) (o1 : opA S0 S1 0) (o2 : opA S1 (SOL 2 (-1) F G rt) 1) (h0 : ∀ t, S0 t) : TI g D n (fun u sh => ∃ f, HT g f [] sh 0 n u) 2 F G lk rt bn [0] 0 := by
  have hc : cxB bn (D 0) = [] := by rw [hd]; rfl
  refine ⟨hG, by omega, by simp, fun x hx => by rw [List.mem_singleton.mp hx]; omega, fun q a b c d d0 d1 => by omega, hf, fun t z hh => ?_, fun u sh tu ts hh => ?_⟩
  · obtain ⟨e, f, y1, y2⟩ := hh
    replace y1 : HT g f ((cxB bn (D 0)).map t) (t 1) 0 e (t 0) := y1
    rw [hc, show e = n from y2] at y1
    exact ⟨f, y1⟩
  · obtain ⟨f, hh⟩ := hh
    obtain ⟨t1, y1, _, y3⟩ := o1.2 (fun _ => []) u (h0 _) tu
    obtain ⟨t2, x1, x2, x3⟩ := o2.2 t1 sh y1 ts
    have e0 : t2 0 = u := by rw [x2 0 (by omega) (by omega), y3]
    refine ⟨t2, x1, e0, x3, n, f, ?_, rfl⟩
    show HT g f ((cxB bn (D 0)).map t2) (t2 1) 0 n (t2 0)
    rw [hc, x3, e0]
    exact hh
theorem TI_end (h : TI g D n (fun u sh => ∃ f, HT g f [] sh 0 n u) K F G lk rt bn [] n) : (∀ t, SOL K (-1) F G rt t → TYP g n (t 0)) ∧ ∀ u, TYP g n u → ∃ t, SOL K (-1) F G rt t ∧ t 0 = u := by
  obtain ⟨h1, hK0, hc, hw, hbn, hf, hC⟩ := h
  refine ⟨fun t z => ?_, fun u hu => ?_⟩
  · obtain ⟨f, hh⟩ := hC.1 t z rfl
    exact ⟨SOL_ty z 0 (by omega) (by omega), t 1, f, SOL_ty z 1 (by omega) (by omega), hh⟩
  · obtain ⟨tu, sh, f, ts, hh⟩ := hu
    obtain ⟨t, z, e0, _⟩ := hC.2 u sh tu ts ⟨f, hh⟩
    exact ⟨t, z, e0⟩
end
