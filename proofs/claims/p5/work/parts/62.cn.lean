/-! THE CLASS: type, typed with a Typer that stands; rows put into their ints -/
theorem al_pos {n : Nat} {kd pl : Nat → Nat} (hW : wf n kd pl) {k : Nat} (h : al n kd pl k) (hk : k ≠ 0) : pl k ≠ 0 := fun h0 => by
  have h2 := h.2
  have h3 := (hW.2.1 0 (by decide)).2
  rw [h0] at h2
  rw [hW.2.2.2.2.2.2] at h3
  omega
theorem vo_al {n : Nat} {kd pl : Nat → Nat} (hW : wf n kd pl) {k : Nat} (h : al n kd pl k) (hk : k ≠ 0) : vo (pl k) = .ref (pl k) := if_neg (al_pos hW h hk)
theorem vo_no {p : Nat} (h : p = 0) : vo p = .null := if_pos h
def nrI (g : Int → Int) : Int → Int := fun j => (iI (g j)).toInt
def nrA (a : Nat → Int → Int) : Nat → Int → Int := fun i => nrI (a i)
theorem aI_nrI {g : Int → Int} : aI (nrI g) = aI g := funext (fun j => iI_of (iI (g (j : Int))))
theorem nrA_in {a : Nat → Int → Int} (i : Nat) (j : Int) : in32 (nrA a i j) := in32_of _
theorem nrI_eq {g : Int → Int} {j : Int} (h : in32 (g j)) : nrI g j = g j := iI_t h
theorem mh_norm {A B : List va_E} {s : Nat → Int} {vl : Int64} {a : Nat → Int → Int} {nm : Nat → Int64} : mh A s vl a nm B = mh A s vl (nrA a) nm B := by
  unfold mh mc
  simp only [nrA, aI_nrI]
theorem ch_norm {n : Nat} {kd pl : Nat → Nat} {s : Nat → Int} {a : Nat → Int → Int} {c : Nat → cdt} {M : List va_E} : ch n kd pl s a c M = ch n kd pl s (nrA a) c M := by
  unfold ch
  have : ∀ q, kc pl s a c M (kd q) = kc pl s (nrA a) c M (kd q) := fun q => by
    unfold kc
    simp only [nrA, aI_nrI]
  simp only [this]
theorem tL_mem {f : Nat} : ∀ {k : Int} {l : List Int}, tL f k l → ∀ v ∈ l, 0 ≤ v ∧ v < 10 + max k 0 + f := by
  induction f with
  | zero => intro k l h; exact h.elim
  | succ f ih =>
    intro k l h v hv
    rcases h with ⟨l1, l2, h0, h1, h2⟩ | ⟨l1, h0, h1⟩ | ⟨c, h0, h1, h2⟩
    · subst h0
      rcases List.mem_cons.mp hv with h | h
      · subst h; omega
      · rcases List.mem_append.mp h with h | h
        · have := ih h1 v h; omega
        · have := ih h2 v h; omega
    · subst h0
      rcases List.mem_cons.mp hv with h | h
      · subst h; omega
      · have := ih h1 v h; omega
    · subst h0
      have : v = c := List.mem_singleton.mp hv
      omega
theorem tL_len {f : Nat} {k : Int} {l : List Int} (t : tL f k l) : tL l.length k l := by
  have := tm_tL (tm_small (tL_tm0 t (rg_fun l 0)) l.length (by omega))
  rw [show ((l.length : Int) - 0).toNat = l.length by omega, rg_fun l 0] at this
  exact this
theorem sh_norm {s : Nat → Int} {a : Nat → Int → Int} {n : Int} {T : Int → List Int} (ho : okT n T) (h : sh s a n T) : sh s (nrA a) n T := by
  refine ⟨h.1, fun t t0 t1 => ?_⟩
  obtain ⟨h1, h2⟩ := h.2 t t0 t1
  obtain ⟨o1, f, o2⟩ := ho.2.2 t t0 t1
  refine ⟨?_, ?_⟩
  · show nrI (a 1) t = _
    rw [nrI_eq (by rw [h1]; exact ⟨by omega, by omega⟩)]
    exact h1
  · rw [← h2]
    conv => rhs; rw [h2]
    have : rg (nrA a 2) (T t).length (500 * t) = rg (a 2) (T t).length (500 * t) := rg_eq (fun j z y => nrI_eq (by
      have hm := rg_in (g := a 2) (n := (T t).length) (p := 500 * t) (j := j) z y
      rw [h2] at hm
      have := tL_mem (tL_len o2) _ hm
      exact ⟨by omega, by omega⟩))
    rw [h2]
    exact this.trans h2
set_option maxHeartbeats 4000000 in
set_option maxRecDepth 100000 in
theorem C_type1 {d n : Nat} {kd pl : Nat → Nat} {s : Nat → Int} {a : Nat → Int → Int} {c : Nat → cdt} {M : List va_E} {Q : Option Value → List va_E → Nat → Nat → Prop} {i : Int} (hW : wf n kd pl) (h203 : al n kd pl 203) (ho5 : okx (rm 5) (c 5)) (hi : in32 i) (k : ∀ r, Q (some (.int (iI r))) (ch n kd pl s a c M) 0 0) : pm_E none (d + 1) pm_mm136 0 [(0, .ref (pl 0)), (1, .int (iI i))] [] (ch n kd pl s a c M) 0 0 Q := by
  obtain ⟨_, _⟩ := id hi
  refine pm_e_sim pm_a136_0 rfl ?_
  show pm_E _ _ _ 1 [(0, .ref (pl 0)), (1, .int (iI i))] [.ref (pl 0)] _ _ _ _
  refine pm_i_get pm_a136_1 rfl (cg_0 hW) rfl ?_
  show pm_E _ _ _ _ _ (vo (pl 203) :: _) _ _ _ _
  rw [vo_al hW h203 (by decide)]
  show pm_E _ _ _ 4 [(0, .ref (pl 0)), (1, .int (iI i))] [.ref (pl 203)] _ _ _ _
  refine pm_e_jmp pm_a136_4 rfl rfl ?_
  show pm_E _ _ _ 11 [(0, .ref (pl 0)), (1, .int (iI i))] [] _ _ _ _
  refine pm_e_sim pm_a136_11 rfl ?_
  show pm_E _ _ _ 12 [(0, .ref (pl 0)), (1, .int (iI i))] [.ref (pl 0)] _ _ _ _
  refine pm_i_get pm_a136_12 rfl (cg_0 hW) rfl ?_
  show pm_E _ _ _ _ _ (vo (pl 203) :: _) _ _ _ _
  rw [vo_al hW h203 (by decide)]
  show pm_E _ _ _ 15 [(0, .ref (pl 0)), (1, .int (iI i))] [.ref (pl 203)] _ _ _ _
  refine pm_i_get pm_a136_15 rfl (cg_203 hW h203) rfl ?_
  show pm_E _ _ _ 18 [(0, .ref (pl 0)), (1, .int (iI i))] [.ref (pl (60 + 2 * 5))] _ _ _ _
  refine pm_e_sim pm_a136_18 rfl ?_
  show pm_E _ _ _ 19 [(0, .ref (pl 0)), (1, .int (iI i))] [.int (iI i), .ref (pl (60 + 2 * 5))] _ _ _ _
  refine pm_i_callv (k := (pl (60 + 2 * 5))) (T2 := pm_mm47) pm_a136_19 rfl rfl rfl (cg_o (cj5 hW h203)) ⟨Nat.le_of_ble_eq_true rfl, Nat.le_of_ble_eq_true rfl, rfl, by decide +kernel⟩ ?_
  show pm_E none _ _ 0 [(0, .ref (pl (60 + 2 * 5))), (1, .int (iI i))] [] _ _ _ _
  refine C_at hW (cj5 hW h203) rfl ho5.1 ho5.2.1 ⟨by omega, by omega⟩ ?_
  show pm_E _ _ _ 22 [(0, .ref (pl 0)), (1, .int (iI i))] [.int (iI (atI (c 5) i))] _ _ _ _
  refine pm_e_ret pm_a136_22 rfl rfl rfl rfl rfl rfl rfl rfl ?_
  exact k _
set_option maxHeartbeats 4000000 in
set_option maxRecDepth 100000 in
theorem C_type0 {d n : Nat} {kd pl : Nat → Nat} {s : Nat → Int} {a : Nat → Int → Int} {c : Nat → cdt} {M : List va_E} {Q : Option Value → List va_E → Nat → Nat → Prop} {i : Int} (hW : wf n kd pl) (h203 : pl 203 = 0) (k : ∀ r, Q (some (.int (iI r))) (ch n kd pl s a c M) 0 0) : pm_E none (d + 1) pm_mm136 0 [(0, .ref (pl 0)), (1, .int (iI i))] [] (ch n kd pl s a c M) 0 0 Q := by
  refine pm_e_sim pm_a136_0 rfl ?_
  show pm_E _ _ _ 1 [(0, .ref (pl 0)), (1, .int (iI i))] [.ref (pl 0)] _ _ _ _
  refine pm_i_get pm_a136_1 rfl (cg_0 hW) rfl ?_
  show pm_E _ _ _ _ _ (vo (pl 203) :: _) _ _ _ _
  rw [vo_no h203]
  show pm_E _ _ _ 4 [(0, .ref (pl 0)), (1, .int (iI i))] [.null] _ _ _ _
  refine pm_e_jmp pm_a136_4 rfl rfl ?_
  show pm_E _ _ _ 7 [(0, .ref (pl 0)), (1, .int (iI i))] [] _ _ _ _
  refine pm_e_sim pm_a136_7 rfl ?_
  refine pm_e_top (y := iI (-1)) (by decide +kernel) ?_
  show pm_E _ _ _ 8 [(0, .ref (pl 0)), (1, .int (iI i))] [.int (iI (-1))] _ _ _ _
  refine pm_e_goto pm_a136_8 rfl ?_
  show pm_E _ _ _ 22 [(0, .ref (pl 0)), (1, .int (iI i))] [.int (iI (-1))] _ _ _ _
  refine pm_e_ret pm_a136_22 rfl rfl rfl rfl rfl rfl rfl rfl ?_
  exact k _
set_option maxHeartbeats 4000000 in
set_option maxRecDepth 100000 in
theorem C_typed1 {d n : Nat} {kd pl : Nat → Nat} {s : Nat → Int} {a : Nat → Int → Int} {c : Nat → cdt} {M : List va_E} {Q : Option Value → List va_E → Nat → Nat → Prop} {N : Int} {T : Int → List Int} {t : Int} (hW : wf n kd pl) (h203 : al n kd pl 203) (hS : cS n kd pl s c N T) (hT : ∀ t, 0 ≤ t → t < N → (T t).length ≤ 500 ∧ ∃ f, tL f 0 (T t)) (ht : in32 t) (hin : ∀ q, in32 (a 1 q)) (ho : tyO s c) (kb : (t < 0 ∨ N ≤ t) → Q (some (.int (iI (-1)))) (ch n kd pl s a c M) 0 0) (k : ∀ a1 s' a' c' r, shM a a1 → tyF s a1 c s' a' c' → Q (some (.int (iI r))) (ch n kd pl s' a' c' M) 0 0) : pm_E none (d + 6) pm_mm109 0 [(0, .ref (pl 0)), (1, .int (iI t))] [] (ch n kd pl s a c M) 0 0 Q := by
  obtain ⟨hS1, hS2, hS3, hS4⟩ := id hS
  obtain ⟨_, _⟩ := id ht
  refine pm_e_sim pm_a109_0 rfl ?_
  show pm_E _ _ _ 1 [(0, .ref (pl 0)), (1, .int (iI t))] [.ref (pl 0)] _ _ _ _
  refine pm_e_sim pm_a109_1 rfl ?_
  show pm_E _ _ _ 2 [(0, .ref (pl 0)), (1, .int (iI t))] [.int (iI t), .ref (pl 0)] _ _ _ _
  refine pm_i_callv (k := (pl 0)) (T2 := pm_mm45) pm_a109_2 rfl rfl rfl (cg_0 hW) ⟨Nat.le_of_ble_eq_true rfl, Nat.le_of_ble_eq_true rfl, rfl, by decide +kernel⟩ ?_
  show pm_E none _ _ 0 [(0, .ref (pl 0)), (1, .int (iI t))] [] _ _ _ _
  refine C_termAt hW hS ⟨by omega, by omega⟩ (fun t0j t1j j ej hj lj => ?_) (fun t9j => ?_)
  · skip
    have rbj := rm_b j
    have rmj : rm j = 500 := if_neg (by omega)
    obtain ⟨hlj, _⟩ := hT t (by omega) (by omega)
    obtain ⟨ovj, zj, gj⟩ : (c j).2.1 = 0 ∧ (c j).1 = (T t).length ∧ rg (c j).2.2 (T t).length 0 = T t := by rcases lj.2 with ⟨_, h1, h2, h3⟩ | ⟨h, _⟩; exact ⟨h1, h2, h3⟩; omega
    show pm_E _ _ _ 5 [(0, .ref (pl 0)), (1, .int (iI t))] [.ref (pl (60 + 2 * j))] _ _ _ _
    refine pm_e_sim pm_a109_5 rfl ?_
    show pm_E _ _ _ 6 [(0, .ref (pl 0)), (1, .int (iI t)), (2, .ref (pl (60 + 2 * j)))] [] _ _ _ _
    refine pm_e_sim pm_a109_6 rfl ?_
    show pm_E _ _ _ 7 [(0, .ref (pl 0)), (1, .int (iI t)), (2, .ref (pl (60 + 2 * j)))] [.ref (pl (60 + 2 * j))] _ _ _ _
    refine pm_e_jmp pm_a109_7 rfl rfl ?_
    show pm_E _ _ _ 12 [(0, .ref (pl 0)), (1, .int (iI t)), (2, .ref (pl (60 + 2 * j)))] [] _ _ _ _
    refine pm_e_sim pm_a109_12 rfl ?_
    show pm_E _ _ _ 13 [(0, .ref (pl 0)), (1, .int (iI t)), (2, .ref (pl (60 + 2 * j)))] [.ref (pl 0)] _ _ _ _
    refine pm_i_get pm_a109_13 rfl (cg_0 hW) rfl ?_
    show pm_E _ _ _ _ _ (vo (pl 203) :: _) _ _ _ _
    rw [vo_al hW h203 (by decide)]
    show pm_E _ _ _ 16 [(0, .ref (pl 0)), (1, .int (iI t)), (2, .ref (pl (60 + 2 * j)))] [.ref (pl 203)] _ _ _ _
    refine pm_e_jmp pm_a109_16 rfl rfl ?_
    show pm_E _ _ _ 34 [(0, .ref (pl 0)), (1, .int (iI t)), (2, .ref (pl (60 + 2 * j)))] [] _ _ _ _
    refine pm_e_sim pm_a109_34 rfl ?_
    show pm_E _ _ _ 35 [(0, .ref (pl 0)), (1, .int (iI t)), (2, .ref (pl (60 + 2 * j)))] [.ref (pl 0)] _ _ _ _
    refine pm_i_get pm_a109_35 rfl (cg_0 hW) rfl ?_
    show pm_E _ _ _ _ _ (vo (pl 203) :: _) _ _ _ _
    rw [vo_al hW h203 (by decide)]
    show pm_E _ _ _ 38 [(0, .ref (pl 0)), (1, .int (iI t)), (2, .ref (pl (60 + 2 * j)))] [.ref (pl 203)] _ _ _ _
    refine pm_e_sim pm_a109_38 rfl ?_
    show pm_E _ _ _ 39 [(0, .ref (pl 0)), (1, .int (iI t)), (2, .ref (pl (60 + 2 * j)))] [.ref (pl (60 + 2 * j)), .ref (pl 203)] _ _ _ _
    refine pm_i_callv (k := (pl 203)) (T2 := pm_mm111) pm_a109_39 rfl rfl rfl (cg_203 hW h203) ⟨Nat.le_of_ble_eq_true rfl, Nat.le_of_ble_eq_true rfl, rfl, by decide +kernel⟩ ?_
    show pm_E none _ _ 0 [(0, .ref (pl 203)), (1, .ref (pl (60 + 2 * j)))] [] _ _ _ _
    obtain ⟨_, ft, htl⟩ := hT t (by omega) (by omega)
    have htm := tL_tm0 htl gj
    rw [← zj] at htm
    refine C_y_lengthOfType hW h203 hj (by omega) (by omega) lj.1 hin htm ho (fun a1 s2 a2 c2 r z1 z2 z3 => ?_)
    show pm_E _ _ _ 42 [(0, .ref (pl 0)), (1, .int (iI t)), (2, .ref (pl (60 + 2 * j)))] [.int (iI r)] _ _ _ _
    refine pm_e_ret pm_a109_42 rfl rfl rfl rfl rfl rfl rfl rfl ?_
    exact k _ _ _ _ _ z1 z2
  · skip
    show pm_E _ _ _ 5 [(0, .ref (pl 0)), (1, .int (iI t))] [.null] _ _ _ _
    refine pm_e_sim pm_a109_5 rfl ?_
    show pm_E _ _ _ 6 [(0, .ref (pl 0)), (1, .int (iI t)), (2, .null)] [] _ _ _ _
    refine pm_e_sim pm_a109_6 rfl ?_
    show pm_E _ _ _ 7 [(0, .ref (pl 0)), (1, .int (iI t)), (2, .null)] [.null] _ _ _ _
    refine pm_e_jmp pm_a109_7 rfl rfl ?_
    show pm_E _ _ _ 10 [(0, .ref (pl 0)), (1, .int (iI t)), (2, .null)] [] _ _ _ _
    refine pm_e_sim pm_a109_10 rfl ?_
    refine pm_e_top (y := iI (-1)) (by decide +kernel) ?_
    show pm_E _ _ _ 11 [(0, .ref (pl 0)), (1, .int (iI t)), (2, .null)] [.int (iI (-1))] _ _ _ _
    refine pm_e_ret pm_a109_11 rfl rfl rfl rfl rfl rfl rfl rfl ?_
    exact kb (by omega)
