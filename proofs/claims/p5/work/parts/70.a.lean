/-! the first turn -/
def kd0 : Nat → Nat := fun q => if q = 4 then 60 else if q = 5 then 61 else if q = 16 then 62 else if q = 17 then 63 else q
def pl0 : Nat → Nat := fun k => if k = 60 then 4 else if k = 61 then 5 else if k = 62 then 16 else if k = 63 then 17 else if k = 4 ∨ k = 5 ∨ k = 16 ∨ k = 17 then 0 else if k < 50 then k else 0
def zS : Nat → Int := fun _ => 0
def zA : Nat → Int → Int := fun _ => z0
def zC : Nat → cdt := fun _ => cd0
theorem pl0_b {k : Nat} (h : 64 ≤ k) : pl0 k = 0 := by
  unfold pl0
  rw [if_neg (by omega), if_neg (by omega), if_neg (by omega), if_neg (by omega), if_neg (by omega), if_neg (by omega)]
theorem cft0 : cft pl0 = fun _ => none := by
  funext i
  unfold cft voo
  by_cases h : i < 32
  · rw [if_pos h, pl0_b (by omega), if_pos rfl]
  · rw [if_neg h]
theorem wf0 : wf 50 kd0 pl0 := by
  refine ⟨by decide +kernel, ?_, ?_, ?_, ?_, ?_, rfl⟩
  · unfold al; decide +kernel
  · unfold al; decide +kernel
  · intro h; exact absurd h.2 (by decide +kernel)
  · intro h; exact absurd h.2 (by decide +kernel)
  · intro k hk
    by_cases h : k < 64
    · have h9 : ∀ k, k < 64 → pl0 k ≠ 0 → (pl0 k < 50 ∧ kd0 (pl0 k) = k) := by decide +kernel
      exact h9 k h hk
    · exact absurd (pl0_b (by omega)) hk
set_option maxRecDepth 100000 in
theorem H0_ch : pm_H0 = ch 50 kd0 pl0 zS zA zC (mc zS 0 zA (fun _ => 0)) := by
  have h : ch 50 kd0 pl0 zS zA zC (mc zS 0 zA (fun _ => 0)) = ([.inr (8, [.ref 1, .ref 3, .ref 4, .ref 6, .ref 9, .ref 13, .ref 15, .null, .null, .int 0, .int 0, .int 0, .int 0]),
  .inr (4, [.ref 2, .int 0]),
  .inl (0, 600, .inl (fun _ => 0)),
  .inl (3, 32, .inr (.inr (.inr (.inr (cft pl0))))),
  .inr (1, [.ref 5, .int 0, .int 0]),
  .inl (0, 500, .inl (fun _ => 0)),
  .inr (3, [.ref 7, .ref 8]),
  .inl (0, 502, .inl (fun _ => 0)),
  .inl (0, 502, .inl (fun _ => 0)),
  .inr (2, [.ref 10, .ref 11, .ref 12, .ref 1, .int 0, .int 0, .int 0, .int 0, .int 0, .int 0, .int 0, .int 0, .int 0]),
  .inl (0, 601, .inl (fun _ => 0)),
  .inl (0, 40, .inl (fun _ => 0)),
  .inl (0, 40, .inl (fun _ => 0)),
  .inr (5, [.ref 14, .int 0, .int 0, .int 0, .int 0, .int 0]),
  .inl (0, 500, .inl (fun _ => 0)),
  .inr (6, [.ref 6, .ref 16]),
  .inr (1, [.ref 17, .int 0, .int 0]),
  .inl (0, 500, .inl (fun _ => 0)),
  .inr (9, pm_f9),
  .inl (0, 32, .inl (fun _ => 0)),
  .inl (0, 16000, .inl (fun _ => 0)),
  .inl (0, 600, .inl (fun _ => 0)),
  .inl (0, 12000, .inl (fun _ => 0)),
  .inl (0, 12000, .inl (fun _ => 0)),
  .inl (0, 12000, .inl (fun _ => 0)),
  .inl (0, 90, .inl (fun _ => 0)),
  .inl (1, 90, .inl (fun _ => 0)),
  .inl (0, 90, .inl (fun _ => 0)),
  .inl (2, 41, .inr (.inl (fun _ => 0))),
  .inl (0, 6000, .inl (fun _ => 0)),
  .inl (1, 501, .inl (fun _ => 0)),
  .inl (1, 501, .inl (fun _ => 0)),
  .inl (0, 501, .inl (fun _ => 0)),
  .inl (0, 12000, .inl (fun _ => 0)),
  .inl (0, 12000, .inl (fun _ => 0)),
  .inl (0, 9000, .inl (fun _ => 0)),
  .inl (0, 9000, .inl (fun _ => 0)),
  .inl (0, 9000, .inl (fun _ => 0)),
  .inl (0, 20000, .inl (fun _ => 0)),
  .inl (0, 20000, .inl (fun _ => 0)),
  .inl (0, 9000, .inl (fun _ => 0)),
  .inl (0, 9000, .inl (fun _ => 0)),
  .inl (0, 500, .inl (fun _ => 0)),
  .inl (0, 500, .inl (fun _ => 0)),
  .inl (0, 501, .inl (fun _ => 0)),
  .inl (0, 501, .inl (fun _ => 0)),
  .inl (0, 500, .inl (fun _ => 0)),
  .inl (0, 500, .inl (fun _ => 0)),
  .inl (0, 9000, .inl (fun _ => 0)),
  .inl (0, 9000, .inl (fun _ => 0))] : List va_E) := rfl
  rw [h, cft0]
  rfl
theorem LI0 : LI 0 50 kd0 pl0 zS zA zC zS zA 50 194358 := by
  have hq : ∀ q, 18 ≤ q → q < 50 → (pl0 q < 50 ∧ kd0 (pl0 q) = q) ∧ pl0 q = q := by
    intro q h1 h2
    have h9 : ∀ q, q < 50 → 18 ≤ q → (pl0 q < 50 ∧ kd0 (pl0 q) = q) ∧ pl0 q = q := by decide +kernel
    exact h9 q h2 h1
  refine ⟨0, fun _ => [], ⟨Int.le_refl 0, by decide, fun t t0 t1 => by omega⟩, ⟨⟨wf0, Nat.le_refl _, hq⟩, ⟨rfl, Int.le_refl 0, by decide, fun t t0 t1 => by omega⟩, fun i _ i1 => Or.inr ⟨pl0_b (by omega), pl0_b (by omega)⟩, ⟨Int.le_refl 0, by decide⟩, fun j => ⟨Int.le_refl 0, by show (0 : Int) ≤ 255; decide⟩, ⟨okx0, okx0⟩, ⟨Int.le_refl 0, by show (0 : Int) < 2147483648; decide⟩, Or.inl ?_, Or.inl ?_⟩, ⟨⟨rfl, fun t t0 t1 => by omega⟩, rfl, rfl, Int.le_refl 0, by show (0 : Int) ≤ 500; decide, ⟨rfl, rfl, ⟨by decide, by decide⟩, ⟨by decide, by decide⟩⟩, rfl, ⟨by decide, by decide⟩⟩, by omega, by omega⟩
  · decide +kernel
  · decide +kernel
/-! every script -/
def pm_fin (v : Option Value) (_ : List va_E) (c n : Nat) : Prop := v = some (.int 1) ∧ c ≤ 600000 ∧ n ≤ 7302250
theorem pm_all (L : Nat) (hL : L ≤ 3072) (xs : Nat → Int32) : pm_E (some (L, xs)) 11 pm_mm0 0 [(0, .retAddr 0)] [] [] 0 0 pm_fin := by
  refine pm_start _ ?_
  rw [H0_ch]
  exact L_loop hL (fun _ _ _ h1 h2 => ⟨rfl, h1, h2⟩) 3073 0 50 kd0 pl0 zS zA zC zS 0 zA (fun _ => 0) 50 194358 0 (by decide) (by decide) LI0 (by decide)
