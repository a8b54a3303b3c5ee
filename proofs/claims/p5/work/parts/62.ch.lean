/-! THE CLASS: Typer: it ends and leaves the rest as it is -/
def tyO (s : Nat → Int) (c : Nat → cdt) : Prop := okx (rm 4) (c 4) ∧ okx (rm 5) (c 5) ∧ in32 (s 20) ∧ in32 (s 21) ∧ in32 (s 22)
def tyF (s : Nat → Int) (a : Nat → Int → Int) (c : Nat → cdt) (s' : Nat → Int) (a' : Nat → Int → Int) (c' : Nat → cdt) : Prop := (∀ i, i < 20 → s' i = s i) ∧ (∀ i, i < 9 → a' i = a i) ∧ (∀ i, i ≠ 4 → i ≠ 5 → c' i = c i) ∧ tyO s' c'
section
variable {s s1 s2 : Nat → Int} {a a1 a2 : Nat → Int → Int} {c c1 c2 : Nat → cdt} {v : Int} {x : cdt}
theorem tyF_r (h : tyO s c) : tyF s a c s a c := ⟨fun _ _ => rfl, fun _ _ => rfl, fun _ _ _ => rfl, h⟩
theorem tyF_t (h : tyF s a c s1 a1 c1) (h' : tyF s1 a1 c1 s2 a2 c2) : tyF s a c s2 a2 c2 := ⟨fun i hi => by rw [h'.1 i hi, h.1 i hi], fun i hi => by rw [h'.2.1 i hi, h.2.1 i hi], fun i i4 i5 => by rw [h'.2.2.1 i i4 i5, h.2.2.1 i i4 i5], h'.2.2.2⟩
theorem tyF_a (h : tyF s a c s1 a1 c1) (h' : ∀ i, i < 9 → a2 i = a1 i) : tyF s a c s1 a2 c1 := ⟨h.1, fun i hi => by rw [h' i hi, h.2.1 i hi], h.2.2.1, h.2.2.2⟩
theorem updS_lt {k i : Nat} (hk : 20 ≤ k) (hi : i < 20) : updS s k v i = s i := by unfold updS; rw [if_neg (by omega)]
theorem updA_lt {k i : Nat} {g : Int → Int} (hk : 9 ≤ k) (hi : i < 9) : updA a k g i = a i := by unfold updA; rw [if_neg (by omega)]
theorem tyF_p20 (h : tyF s a c s1 a1 c1) (hv : in32 v) : tyF s a c (updS s1 20 v) a1 c1 := ⟨fun i hi => by rw [updS_lt (by omega) hi, h.1 i hi], h.2.1, h.2.2.1, h.2.2.2.1, h.2.2.2.2.1, hv, h.2.2.2.2.2.2.1, h.2.2.2.2.2.2.2⟩
theorem tyF_p21 (h : tyF s a c s1 a1 c1) (hv : in32 v) : tyF s a c (updS s1 21 v) a1 c1 := ⟨fun i hi => by rw [updS_lt (by omega) hi, h.1 i hi], h.2.1, h.2.2.1, h.2.2.2.1, h.2.2.2.2.1, h.2.2.2.2.2.1, hv, h.2.2.2.2.2.2.2⟩
theorem tyF_p22 (h : tyF s a c s1 a1 c1) (hv : in32 v) : tyF s a c (updS s1 22 v) a1 c1 := ⟨fun i hi => by rw [updS_lt (by omega) hi, h.1 i hi], h.2.1, h.2.2.1, h.2.2.2.1, h.2.2.2.2.1, h.2.2.2.2.2.1, h.2.2.2.2.2.2.1, hv⟩
theorem tyF_c4 (h : tyF s a c s1 a1 c1) (hx : okx (rm 4) x) : tyF s a c s1 a1 (updC c1 4 x) := ⟨h.1, h.2.1, fun i i4 i5 => by rw [updC_n i4, h.2.2.1 i i4 i5], by rw [updC_at]; exact hx, by rw [updC_n (by decide)]; exact h.2.2.2.2.1, h.2.2.2.2.2⟩
theorem tyF_c5 (h : tyF s a c s1 a1 c1) (hx : okx (rm 5) x) : tyF s a c s1 a1 (updC c1 5 x) := ⟨h.1, h.2.1, fun i i4 i5 => by rw [updC_n i5, h.2.2.1 i i4 i5], by rw [updC_n (by decide)]; exact h.2.2.2.1, by rw [updC_at]; exact hx, h.2.2.2.2.2⟩
end
theorem okx_md {R : Nat} {x : cdt} (h : okx R x) : ∃ l, md x R l := by
  rcases h.2.2.1 with h0 | h0
  · refine ⟨rg x.2.2 x.1.toNat 0, h, Or.inl ⟨?_, h0, ?_, ?_⟩⟩
    · rw [rg_len]; have := h.1; have := h.2.1; omega
    · rw [rg_len]; have := h.1; omega
    · rw [rg_len]
  · exact ⟨List.replicate (R + 1) 0, h, Or.inr ⟨by rw [List.length_replicate]; omega, h0⟩⟩
set_option maxHeartbeats 4000000 in
set_option maxRecDepth 100000 in
theorem C_yat_204 {d n : Nat} {kd pl : Nat → Nat} {s : Nat → Int} {a : Nat → Int → Int} {c : Nat → cdt} {M : List va_E} {Q : Option Value → List va_E → Nat → Nat → Prop} {p : Int} (hW : wf n kd pl) (h203 : al n kd pl 203) (hp : in32 p) (k : ∀ r, in32 r → Q (some (.int (iI r))) (ch n kd pl s a c M) 0 0) : pm_E none d pm_mm123 0 [(0, .ref (pl 204)), (1, .int (iI p))] [] (ch n kd pl s a c M) 0 0 Q := by
  obtain ⟨_, _⟩ := id hp
  refine pm_e_sim pm_a123_0 rfl ?_
  show pm_E _ _ _ 1 [(0, .ref (pl 204)), (1, .int (iI p))] [.int (iI p)] _ _ _ _
  refine pm_i_lt (t := 16) pm_a123_1 rfl ⟨by omega, by omega⟩ (fun h_1 => ?_) (fun h_1 => ?_)
  · skip
    show pm_E _ _ _ 16 [(0, .ref (pl 204)), (1, .int (iI p))] [] _ _ _ _
    refine pm_e_sim pm_a123_16 rfl ?_
    refine pm_e_top (y := iI 0) (by decide +kernel) ?_
    show pm_E _ _ _ 17 [(0, .ref (pl 204)), (1, .int (iI p))] [.int (iI 0)] _ _ _ _
    refine pm_e_ret pm_a123_17 rfl rfl rfl rfl rfl rfl rfl rfl ?_
    exact k 0 (by decide)
  · skip
    show pm_E _ _ _ 4 [(0, .ref (pl 204)), (1, .int (iI p))] [] _ _ _ _
    refine pm_e_sim pm_a123_4 rfl ?_
    show pm_E _ _ _ 5 [(0, .ref (pl 204)), (1, .int (iI p))] [.int (iI p)] _ _ _ _
    refine pm_e_sim pm_a123_5 rfl ?_
    show pm_E _ _ _ 6 [(0, .ref (pl 204)), (1, .int (iI p))] [.ref (pl 204), .int (iI p)] _ _ _ _
    refine pm_i_aln pm_a123_6 (cg_204 hW h203) ?_
    show pm_E _ _ _ 7 [(0, .ref (pl 204)), (1, .int (iI p))] [.int (iI 2800), .int (iI p)] _ _ _ _
    refine pm_c_ge (t := 16) pm_a123_7 rfl ⟨by omega, by omega⟩ ⟨by omega, by omega⟩ (fun h_2 => ?_) (fun h_2 => ?_)
    · skip
      show pm_E _ _ _ 16 [(0, .ref (pl 204)), (1, .int (iI p))] [] _ _ _ _
      refine pm_e_sim pm_a123_16 rfl ?_
      refine pm_e_top (y := iI 0) (by decide +kernel) ?_
      show pm_E _ _ _ 17 [(0, .ref (pl 204)), (1, .int (iI p))] [.int (iI 0)] _ _ _ _
      refine pm_e_ret pm_a123_17 rfl rfl rfl rfl rfl rfl rfl rfl ?_
      exact k 0 (by decide)
    · skip
      show pm_E _ _ _ 10 [(0, .ref (pl 204)), (1, .int (iI p))] [] _ _ _ _
      refine pm_e_sim pm_a123_10 rfl ?_
      show pm_E _ _ _ 11 [(0, .ref (pl 204)), (1, .int (iI p))] [.ref (pl 204)] _ _ _ _
      refine pm_e_sim pm_a123_11 rfl ?_
      show pm_E _ _ _ 12 [(0, .ref (pl 204)), (1, .int (iI p))] [.int (iI p), .ref (pl 204)] _ _ _ _
      refine pm_i_ald pm_a123_12 (cg_204 hW h203) (by omega) (by omega) ⟨by omega, by omega⟩ ?_
      show pm_E _ _ _ 13 [(0, .ref (pl 204)), (1, .int (iI p))] [.int (iI ((a 9) (p)))] _ _ _ _
      refine pm_e_goto pm_a123_13 rfl ?_
      show pm_E _ _ _ 17 [(0, .ref (pl 204)), (1, .int (iI p))] [.int (iI ((a 9) (p)))] _ _ _ _
      refine pm_e_ret pm_a123_17 rfl rfl rfl rfl rfl rfl rfl rfl ?_
      refine pm_q_v (iI_of _).symm ?_
      exact k _ (in32_of _)
set_option maxHeartbeats 4000000 in
set_option maxRecDepth 100000 in
theorem C_yset_204 {d n : Nat} {kd pl : Nat → Nat} {s : Nat → Int} {a : Nat → Int → Int} {c : Nat → cdt} {M : List va_E} {Q : Option Value → List va_E → Nat → Nat → Prop} {p v : Int} (hW : wf n kd pl) (h203 : al n kd pl 203) (hp : in32 p) (k : ∀ a', (∀ i, i < 9 → a' i = a i) → Q none (ch n kd pl s a' c M) 0 0) : pm_E none d pm_mm114 0 [(0, .ref (pl 204)), (1, .int (iI p)), (2, .int (iI v))] [] (ch n kd pl s a c M) 0 0 Q := by
  obtain ⟨_, _⟩ := id hp
  refine pm_e_sim pm_a114_0 rfl ?_
  show pm_E _ _ _ 1 [(0, .ref (pl 204)), (1, .int (iI p)), (2, .int (iI v))] [.int (iI p)] _ _ _ _
  refine pm_i_lt (t := 14) pm_a114_1 rfl ⟨by omega, by omega⟩ (fun h_1 => ?_) (fun h_1 => ?_)
  · skip
    show pm_E _ _ _ 14 [(0, .ref (pl 204)), (1, .int (iI p)), (2, .int (iI v))] [] _ _ _ _
    refine pm_e_ret pm_a114_14 rfl rfl rfl rfl rfl rfl rfl rfl ?_
    exact k a (fun _ _ => rfl)
  · skip
    show pm_E _ _ _ 4 [(0, .ref (pl 204)), (1, .int (iI p)), (2, .int (iI v))] [] _ _ _ _
    refine pm_e_sim pm_a114_4 rfl ?_
    show pm_E _ _ _ 5 [(0, .ref (pl 204)), (1, .int (iI p)), (2, .int (iI v))] [.int (iI p)] _ _ _ _
    refine pm_e_sim pm_a114_5 rfl ?_
    show pm_E _ _ _ 6 [(0, .ref (pl 204)), (1, .int (iI p)), (2, .int (iI v))] [.ref (pl 204), .int (iI p)] _ _ _ _
    refine pm_i_aln pm_a114_6 (cg_204 hW h203) ?_
    show pm_E _ _ _ 7 [(0, .ref (pl 204)), (1, .int (iI p)), (2, .int (iI v))] [.int (iI 2800), .int (iI p)] _ _ _ _
    refine pm_c_ge (t := 14) pm_a114_7 rfl ⟨by omega, by omega⟩ ⟨by omega, by omega⟩ (fun h_2 => ?_) (fun h_2 => ?_)
    · skip
      show pm_E _ _ _ 14 [(0, .ref (pl 204)), (1, .int (iI p)), (2, .int (iI v))] [] _ _ _ _
      refine pm_e_ret pm_a114_14 rfl rfl rfl rfl rfl rfl rfl rfl ?_
      exact k a (fun _ _ => rfl)
    · skip
      show pm_E _ _ _ 10 [(0, .ref (pl 204)), (1, .int (iI p)), (2, .int (iI v))] [] _ _ _ _
      refine pm_e_sim pm_a114_10 rfl ?_
      show pm_E _ _ _ 11 [(0, .ref (pl 204)), (1, .int (iI p)), (2, .int (iI v))] [.ref (pl 204)] _ _ _ _
      refine pm_e_sim pm_a114_11 rfl ?_
      show pm_E _ _ _ 12 [(0, .ref (pl 204)), (1, .int (iI p)), (2, .int (iI v))] [.int (iI p), .ref (pl 204)] _ _ _ _
      refine pm_e_sim pm_a114_12 rfl ?_
      show pm_E _ _ _ 13 [(0, .ref (pl 204)), (1, .int (iI p)), (2, .int (iI v))] [.int (iI v), .int (iI p), .ref (pl 204)] _ _ _ _
      refine pm_i_ast pm_a114_13 (cg_204 hW h203) (by omega) (by omega) ⟨by omega, by omega⟩ (ca_204 hW h203 _) ?_
      show pm_E _ _ _ 14 [(0, .ref (pl 204)), (1, .int (iI p)), (2, .int (iI v))] [] _ _ _ _
      refine pm_e_ret pm_a114_14 rfl rfl rfl rfl rfl rfl rfl rfl ?_
      exact k _ (fun i hi => updA_lt (by omega) hi)
set_option maxHeartbeats 4000000 in
set_option maxRecDepth 100000 in
theorem C_yat_205 {d n : Nat} {kd pl : Nat → Nat} {s : Nat → Int} {a : Nat → Int → Int} {c : Nat → cdt} {M : List va_E} {Q : Option Value → List va_E → Nat → Nat → Prop} {p : Int} (hW : wf n kd pl) (h203 : al n kd pl 203) (hp : in32 p) (k : ∀ r, in32 r → Q (some (.int (iI r))) (ch n kd pl s a c M) 0 0) : pm_E none d pm_mm123 0 [(0, .ref (pl 205)), (1, .int (iI p))] [] (ch n kd pl s a c M) 0 0 Q := by
  obtain ⟨_, _⟩ := id hp
  refine pm_e_sim pm_a123_0 rfl ?_
  show pm_E _ _ _ 1 [(0, .ref (pl 205)), (1, .int (iI p))] [.int (iI p)] _ _ _ _
  refine pm_i_lt (t := 16) pm_a123_1 rfl ⟨by omega, by omega⟩ (fun h_1 => ?_) (fun h_1 => ?_)
  · skip
    show pm_E _ _ _ 16 [(0, .ref (pl 205)), (1, .int (iI p))] [] _ _ _ _
    refine pm_e_sim pm_a123_16 rfl ?_
    refine pm_e_top (y := iI 0) (by decide +kernel) ?_
    show pm_E _ _ _ 17 [(0, .ref (pl 205)), (1, .int (iI p))] [.int (iI 0)] _ _ _ _
    refine pm_e_ret pm_a123_17 rfl rfl rfl rfl rfl rfl rfl rfl ?_
    exact k 0 (by decide)
  · skip
    show pm_E _ _ _ 4 [(0, .ref (pl 205)), (1, .int (iI p))] [] _ _ _ _
    refine pm_e_sim pm_a123_4 rfl ?_
    show pm_E _ _ _ 5 [(0, .ref (pl 205)), (1, .int (iI p))] [.int (iI p)] _ _ _ _
    refine pm_e_sim pm_a123_5 rfl ?_
    show pm_E _ _ _ 6 [(0, .ref (pl 205)), (1, .int (iI p))] [.ref (pl 205), .int (iI p)] _ _ _ _
    refine pm_i_aln pm_a123_6 (cg_205 hW h203) ?_
    show pm_E _ _ _ 7 [(0, .ref (pl 205)), (1, .int (iI p))] [.int (iI 2800), .int (iI p)] _ _ _ _
    refine pm_c_ge (t := 16) pm_a123_7 rfl ⟨by omega, by omega⟩ ⟨by omega, by omega⟩ (fun h_2 => ?_) (fun h_2 => ?_)
    · skip
      show pm_E _ _ _ 16 [(0, .ref (pl 205)), (1, .int (iI p))] [] _ _ _ _
      refine pm_e_sim pm_a123_16 rfl ?_
      refine pm_e_top (y := iI 0) (by decide +kernel) ?_
      show pm_E _ _ _ 17 [(0, .ref (pl 205)), (1, .int (iI p))] [.int (iI 0)] _ _ _ _
      refine pm_e_ret pm_a123_17 rfl rfl rfl rfl rfl rfl rfl rfl ?_
      exact k 0 (by decide)
    · skip
      show pm_E _ _ _ 10 [(0, .ref (pl 205)), (1, .int (iI p))] [] _ _ _ _
      refine pm_e_sim pm_a123_10 rfl ?_
      show pm_E _ _ _ 11 [(0, .ref (pl 205)), (1, .int (iI p))] [.ref (pl 205)] _ _ _ _
      refine pm_e_sim pm_a123_11 rfl ?_
      show pm_E _ _ _ 12 [(0, .ref (pl 205)), (1, .int (iI p))] [.int (iI p), .ref (pl 205)] _ _ _ _
      refine pm_i_ald pm_a123_12 (cg_205 hW h203) (by omega) (by omega) ⟨by omega, by omega⟩ ?_
      show pm_E _ _ _ 13 [(0, .ref (pl 205)), (1, .int (iI p))] [.int (iI ((a 10) (p)))] _ _ _ _
      refine pm_e_goto pm_a123_13 rfl ?_
      show pm_E _ _ _ 17 [(0, .ref (pl 205)), (1, .int (iI p))] [.int (iI ((a 10) (p)))] _ _ _ _
      refine pm_e_ret pm_a123_17 rfl rfl rfl rfl rfl rfl rfl rfl ?_
      refine pm_q_v (iI_of _).symm ?_
      exact k _ (in32_of _)
set_option maxHeartbeats 4000000 in
set_option maxRecDepth 100000 in
theorem C_yset_205 {d n : Nat} {kd pl : Nat → Nat} {s : Nat → Int} {a : Nat → Int → Int} {c : Nat → cdt} {M : List va_E} {Q : Option Value → List va_E → Nat → Nat → Prop} {p v : Int} (hW : wf n kd pl) (h203 : al n kd pl 203) (hp : in32 p) (k : ∀ a', (∀ i, i < 9 → a' i = a i) → Q none (ch n kd pl s a' c M) 0 0) : pm_E none d pm_mm114 0 [(0, .ref (pl 205)), (1, .int (iI p)), (2, .int (iI v))] [] (ch n kd pl s a c M) 0 0 Q := by
  obtain ⟨_, _⟩ := id hp
  refine pm_e_sim pm_a114_0 rfl ?_
  show pm_E _ _ _ 1 [(0, .ref (pl 205)), (1, .int (iI p)), (2, .int (iI v))] [.int (iI p)] _ _ _ _
  refine pm_i_lt (t := 14) pm_a114_1 rfl ⟨by omega, by omega⟩ (fun h_1 => ?_) (fun h_1 => ?_)
  · skip
    show pm_E _ _ _ 14 [(0, .ref (pl 205)), (1, .int (iI p)), (2, .int (iI v))] [] _ _ _ _
    refine pm_e_ret pm_a114_14 rfl rfl rfl rfl rfl rfl rfl rfl ?_
    exact k a (fun _ _ => rfl)
  · skip
    show pm_E _ _ _ 4 [(0, .ref (pl 205)), (1, .int (iI p)), (2, .int (iI v))] [] _ _ _ _
    refine pm_e_sim pm_a114_4 rfl ?_
    show pm_E _ _ _ 5 [(0, .ref (pl 205)), (1, .int (iI p)), (2, .int (iI v))] [.int (iI p)] _ _ _ _
    refine pm_e_sim pm_a114_5 rfl ?_
    show pm_E _ _ _ 6 [(0, .ref (pl 205)), (1, .int (iI p)), (2, .int (iI v))] [.ref (pl 205), .int (iI p)] _ _ _ _
    refine pm_i_aln pm_a114_6 (cg_205 hW h203) ?_
    show pm_E _ _ _ 7 [(0, .ref (pl 205)), (1, .int (iI p)), (2, .int (iI v))] [.int (iI 2800), .int (iI p)] _ _ _ _
    refine pm_c_ge (t := 14) pm_a114_7 rfl ⟨by omega, by omega⟩ ⟨by omega, by omega⟩ (fun h_2 => ?_) (fun h_2 => ?_)
    · skip
      show pm_E _ _ _ 14 [(0, .ref (pl 205)), (1, .int (iI p)), (2, .int (iI v))] [] _ _ _ _
      refine pm_e_ret pm_a114_14 rfl rfl rfl rfl rfl rfl rfl rfl ?_
      exact k a (fun _ _ => rfl)
    · skip
      show pm_E _ _ _ 10 [(0, .ref (pl 205)), (1, .int (iI p)), (2, .int (iI v))] [] _ _ _ _
      refine pm_e_sim pm_a114_10 rfl ?_
      show pm_E _ _ _ 11 [(0, .ref (pl 205)), (1, .int (iI p)), (2, .int (iI v))] [.ref (pl 205)] _ _ _ _
      refine pm_e_sim pm_a114_11 rfl ?_
      show pm_E _ _ _ 12 [(0, .ref (pl 205)), (1, .int (iI p)), (2, .int (iI v))] [.int (iI p), .ref (pl 205)] _ _ _ _
      refine pm_e_sim pm_a114_12 rfl ?_
      show pm_E _ _ _ 13 [(0, .ref (pl 205)), (1, .int (iI p)), (2, .int (iI v))] [.int (iI v), .int (iI p), .ref (pl 205)] _ _ _ _
      refine pm_i_ast pm_a114_13 (cg_205 hW h203) (by omega) (by omega) ⟨by omega, by omega⟩ (ca_205 hW h203 _) ?_
      show pm_E _ _ _ 14 [(0, .ref (pl 205)), (1, .int (iI p)), (2, .int (iI v))] [] _ _ _ _
      refine pm_e_ret pm_a114_14 rfl rfl rfl rfl rfl rfl rfl rfl ?_
      exact k _ (fun i hi => updA_lt (by omega) hi)
set_option maxHeartbeats 4000000 in
set_option maxRecDepth 100000 in
theorem C_yat_206 {d n : Nat} {kd pl : Nat → Nat} {s : Nat → Int} {a : Nat → Int → Int} {c : Nat → cdt} {M : List va_E} {Q : Option Value → List va_E → Nat → Nat → Prop} {p : Int} (hW : wf n kd pl) (h203 : al n kd pl 203) (hp : in32 p) (k : ∀ r, in32 r → Q (some (.int (iI r))) (ch n kd pl s a c M) 0 0) : pm_E none d pm_mm123 0 [(0, .ref (pl 206)), (1, .int (iI p))] [] (ch n kd pl s a c M) 0 0 Q := by
  obtain ⟨_, _⟩ := id hp
  refine pm_e_sim pm_a123_0 rfl ?_
  show pm_E _ _ _ 1 [(0, .ref (pl 206)), (1, .int (iI p))] [.int (iI p)] _ _ _ _
  refine pm_i_lt (t := 16) pm_a123_1 rfl ⟨by omega, by omega⟩ (fun h_1 => ?_) (fun h_1 => ?_)
  · skip
    show pm_E _ _ _ 16 [(0, .ref (pl 206)), (1, .int (iI p))] [] _ _ _ _
    refine pm_e_sim pm_a123_16 rfl ?_
    refine pm_e_top (y := iI 0) (by decide +kernel) ?_
    show pm_E _ _ _ 17 [(0, .ref (pl 206)), (1, .int (iI p))] [.int (iI 0)] _ _ _ _
    refine pm_e_ret pm_a123_17 rfl rfl rfl rfl rfl rfl rfl rfl ?_
    exact k 0 (by decide)
  · skip
    show pm_E _ _ _ 4 [(0, .ref (pl 206)), (1, .int (iI p))] [] _ _ _ _
    refine pm_e_sim pm_a123_4 rfl ?_
    show pm_E _ _ _ 5 [(0, .ref (pl 206)), (1, .int (iI p))] [.int (iI p)] _ _ _ _
    refine pm_e_sim pm_a123_5 rfl ?_
    show pm_E _ _ _ 6 [(0, .ref (pl 206)), (1, .int (iI p))] [.ref (pl 206), .int (iI p)] _ _ _ _
    refine pm_i_aln pm_a123_6 (cg_206 hW h203) ?_
    show pm_E _ _ _ 7 [(0, .ref (pl 206)), (1, .int (iI p))] [.int (iI 2800), .int (iI p)] _ _ _ _
    refine pm_c_ge (t := 16) pm_a123_7 rfl ⟨by omega, by omega⟩ ⟨by omega, by omega⟩ (fun h_2 => ?_) (fun h_2 => ?_)
    · skip
      show pm_E _ _ _ 16 [(0, .ref (pl 206)), (1, .int (iI p))] [] _ _ _ _
      refine pm_e_sim pm_a123_16 rfl ?_
      refine pm_e_top (y := iI 0) (by decide +kernel) ?_
      show pm_E _ _ _ 17 [(0, .ref (pl 206)), (1, .int (iI p))] [.int (iI 0)] _ _ _ _
      refine pm_e_ret pm_a123_17 rfl rfl rfl rfl rfl rfl rfl rfl ?_
      exact k 0 (by decide)
    · skip
      show pm_E _ _ _ 10 [(0, .ref (pl 206)), (1, .int (iI p))] [] _ _ _ _
      refine pm_e_sim pm_a123_10 rfl ?_
      show pm_E _ _ _ 11 [(0, .ref (pl 206)), (1, .int (iI p))] [.ref (pl 206)] _ _ _ _
      refine pm_e_sim pm_a123_11 rfl ?_
      show pm_E _ _ _ 12 [(0, .ref (pl 206)), (1, .int (iI p))] [.int (iI p), .ref (pl 206)] _ _ _ _
      refine pm_i_ald pm_a123_12 (cg_206 hW h203) (by omega) (by omega) ⟨by omega, by omega⟩ ?_
      show pm_E _ _ _ 13 [(0, .ref (pl 206)), (1, .int (iI p))] [.int (iI ((a 11) (p)))] _ _ _ _
      refine pm_e_goto pm_a123_13 rfl ?_
      show pm_E _ _ _ 17 [(0, .ref (pl 206)), (1, .int (iI p))] [.int (iI ((a 11) (p)))] _ _ _ _
      refine pm_e_ret pm_a123_17 rfl rfl rfl rfl rfl rfl rfl rfl ?_
      refine pm_q_v (iI_of _).symm ?_
      exact k _ (in32_of _)
set_option maxHeartbeats 4000000 in
set_option maxRecDepth 100000 in
theorem C_yset_206 {d n : Nat} {kd pl : Nat → Nat} {s : Nat → Int} {a : Nat → Int → Int} {c : Nat → cdt} {M : List va_E} {Q : Option Value → List va_E → Nat → Nat → Prop} {p v : Int} (hW : wf n kd pl) (h203 : al n kd pl 203) (hp : in32 p) (k : ∀ a', (∀ i, i < 9 → a' i = a i) → Q none (ch n kd pl s a' c M) 0 0) : pm_E none d pm_mm114 0 [(0, .ref (pl 206)), (1, .int (iI p)), (2, .int (iI v))] [] (ch n kd pl s a c M) 0 0 Q := by
  obtain ⟨_, _⟩ := id hp
  refine pm_e_sim pm_a114_0 rfl ?_
  show pm_E _ _ _ 1 [(0, .ref (pl 206)), (1, .int (iI p)), (2, .int (iI v))] [.int (iI p)] _ _ _ _
  refine pm_i_lt (t := 14) pm_a114_1 rfl ⟨by omega, by omega⟩ (fun h_1 => ?_) (fun h_1 => ?_)
  · skip
    show pm_E _ _ _ 14 [(0, .ref (pl 206)), (1, .int (iI p)), (2, .int (iI v))] [] _ _ _ _
    refine pm_e_ret pm_a114_14 rfl rfl rfl rfl rfl rfl rfl rfl ?_
    exact k a (fun _ _ => rfl)
  · skip
    show pm_E _ _ _ 4 [(0, .ref (pl 206)), (1, .int (iI p)), (2, .int (iI v))] [] _ _ _ _
    refine pm_e_sim pm_a114_4 rfl ?_
    show pm_E _ _ _ 5 [(0, .ref (pl 206)), (1, .int (iI p)), (2, .int (iI v))] [.int (iI p)] _ _ _ _
    refine pm_e_sim pm_a114_5 rfl ?_
    show pm_E _ _ _ 6 [(0, .ref (pl 206)), (1, .int (iI p)), (2, .int (iI v))] [.ref (pl 206), .int (iI p)] _ _ _ _
    refine pm_i_aln pm_a114_6 (cg_206 hW h203) ?_
    show pm_E _ _ _ 7 [(0, .ref (pl 206)), (1, .int (iI p)), (2, .int (iI v))] [.int (iI 2800), .int (iI p)] _ _ _ _
    refine pm_c_ge (t := 14) pm_a114_7 rfl ⟨by omega, by omega⟩ ⟨by omega, by omega⟩ (fun h_2 => ?_) (fun h_2 => ?_)
    · skip
      show pm_E _ _ _ 14 [(0, .ref (pl 206)), (1, .int (iI p)), (2, .int (iI v))] [] _ _ _ _
      refine pm_e_ret pm_a114_14 rfl rfl rfl rfl rfl rfl rfl rfl ?_
      exact k a (fun _ _ => rfl)
    · skip
      show pm_E _ _ _ 10 [(0, .ref (pl 206)), (1, .int (iI p)), (2, .int (iI v))] [] _ _ _ _
      refine pm_e_sim pm_a114_10 rfl ?_
      show pm_E _ _ _ 11 [(0, .ref (pl 206)), (1, .int (iI p)), (2, .int (iI v))] [.ref (pl 206)] _ _ _ _
      refine pm_e_sim pm_a114_11 rfl ?_
      show pm_E _ _ _ 12 [(0, .ref (pl 206)), (1, .int (iI p)), (2, .int (iI v))] [.int (iI p), .ref (pl 206)] _ _ _ _
      refine pm_e_sim pm_a114_12 rfl ?_
      show pm_E _ _ _ 13 [(0, .ref (pl 206)), (1, .int (iI p)), (2, .int (iI v))] [.int (iI v), .int (iI p), .ref (pl 206)] _ _ _ _
      refine pm_i_ast pm_a114_13 (cg_206 hW h203) (by omega) (by omega) ⟨by omega, by omega⟩ (ca_206 hW h203 _) ?_
      show pm_E _ _ _ 14 [(0, .ref (pl 206)), (1, .int (iI p)), (2, .int (iI v))] [] _ _ _ _
      refine pm_e_ret pm_a114_14 rfl rfl rfl rfl rfl rfl rfl rfl ?_
      exact k _ (fun i hi => updA_lt (by omega) hi)
set_option maxHeartbeats 4000000 in
set_option maxRecDepth 100000 in
theorem C_yat_207 {d n : Nat} {kd pl : Nat → Nat} {s : Nat → Int} {a : Nat → Int → Int} {c : Nat → cdt} {M : List va_E} {Q : Option Value → List va_E → Nat → Nat → Prop} {p : Int} (hW : wf n kd pl) (h203 : al n kd pl 203) (hp : in32 p) (k : ∀ r, in32 r → Q (some (.int (iI r))) (ch n kd pl s a c M) 0 0) : pm_E none d pm_mm123 0 [(0, .ref (pl 207)), (1, .int (iI p))] [] (ch n kd pl s a c M) 0 0 Q := by
  obtain ⟨_, _⟩ := id hp
  refine pm_e_sim pm_a123_0 rfl ?_
  show pm_E _ _ _ 1 [(0, .ref (pl 207)), (1, .int (iI p))] [.int (iI p)] _ _ _ _
  refine pm_i_lt (t := 16) pm_a123_1 rfl ⟨by omega, by omega⟩ (fun h_1 => ?_) (fun h_1 => ?_)
  · skip
    show pm_E _ _ _ 16 [(0, .ref (pl 207)), (1, .int (iI p))] [] _ _ _ _
    refine pm_e_sim pm_a123_16 rfl ?_
    refine pm_e_top (y := iI 0) (by decide +kernel) ?_
    show pm_E _ _ _ 17 [(0, .ref (pl 207)), (1, .int (iI p))] [.int (iI 0)] _ _ _ _
    refine pm_e_ret pm_a123_17 rfl rfl rfl rfl rfl rfl rfl rfl ?_
    exact k 0 (by decide)
  · skip
    show pm_E _ _ _ 4 [(0, .ref (pl 207)), (1, .int (iI p))] [] _ _ _ _
    refine pm_e_sim pm_a123_4 rfl ?_
    show pm_E _ _ _ 5 [(0, .ref (pl 207)), (1, .int (iI p))] [.int (iI p)] _ _ _ _
    refine pm_e_sim pm_a123_5 rfl ?_
    show pm_E _ _ _ 6 [(0, .ref (pl 207)), (1, .int (iI p))] [.ref (pl 207), .int (iI p)] _ _ _ _
    refine pm_i_aln pm_a123_6 (cg_207 hW h203) ?_
    show pm_E _ _ _ 7 [(0, .ref (pl 207)), (1, .int (iI p))] [.int (iI 2800), .int (iI p)] _ _ _ _
    refine pm_c_ge (t := 16) pm_a123_7 rfl ⟨by omega, by omega⟩ ⟨by omega, by omega⟩ (fun h_2 => ?_) (fun h_2 => ?_)
    · skip
      show pm_E _ _ _ 16 [(0, .ref (pl 207)), (1, .int (iI p))] [] _ _ _ _
      refine pm_e_sim pm_a123_16 rfl ?_
      refine pm_e_top (y := iI 0) (by decide +kernel) ?_
      show pm_E _ _ _ 17 [(0, .ref (pl 207)), (1, .int (iI p))] [.int (iI 0)] _ _ _ _
      refine pm_e_ret pm_a123_17 rfl rfl rfl rfl rfl rfl rfl rfl ?_
      exact k 0 (by decide)
    · skip
      show pm_E _ _ _ 10 [(0, .ref (pl 207)), (1, .int (iI p))] [] _ _ _ _
      refine pm_e_sim pm_a123_10 rfl ?_
      show pm_E _ _ _ 11 [(0, .ref (pl 207)), (1, .int (iI p))] [.ref (pl 207)] _ _ _ _
      refine pm_e_sim pm_a123_11 rfl ?_
      show pm_E _ _ _ 12 [(0, .ref (pl 207)), (1, .int (iI p))] [.int (iI p), .ref (pl 207)] _ _ _ _
      refine pm_i_ald pm_a123_12 (cg_207 hW h203) (by omega) (by omega) ⟨by omega, by omega⟩ ?_
      show pm_E _ _ _ 13 [(0, .ref (pl 207)), (1, .int (iI p))] [.int (iI ((a 12) (p)))] _ _ _ _
      refine pm_e_goto pm_a123_13 rfl ?_
      show pm_E _ _ _ 17 [(0, .ref (pl 207)), (1, .int (iI p))] [.int (iI ((a 12) (p)))] _ _ _ _
      refine pm_e_ret pm_a123_17 rfl rfl rfl rfl rfl rfl rfl rfl ?_
      refine pm_q_v (iI_of _).symm ?_
      exact k _ (in32_of _)
set_option maxHeartbeats 4000000 in
set_option maxRecDepth 100000 in
theorem C_yset_207 {d n : Nat} {kd pl : Nat → Nat} {s : Nat → Int} {a : Nat → Int → Int} {c : Nat → cdt} {M : List va_E} {Q : Option Value → List va_E → Nat → Nat → Prop} {p v : Int} (hW : wf n kd pl) (h203 : al n kd pl 203) (hp : in32 p) (k : ∀ a', (∀ i, i < 9 → a' i = a i) → Q none (ch n kd pl s a' c M) 0 0) : pm_E none d pm_mm114 0 [(0, .ref (pl 207)), (1, .int (iI p)), (2, .int (iI v))] [] (ch n kd pl s a c M) 0 0 Q := by
  obtain ⟨_, _⟩ := id hp
  refine pm_e_sim pm_a114_0 rfl ?_
  show pm_E _ _ _ 1 [(0, .ref (pl 207)), (1, .int (iI p)), (2, .int (iI v))] [.int (iI p)] _ _ _ _
  refine pm_i_lt (t := 14) pm_a114_1 rfl ⟨by omega, by omega⟩ (fun h_1 => ?_) (fun h_1 => ?_)
  · skip
    show pm_E _ _ _ 14 [(0, .ref (pl 207)), (1, .int (iI p)), (2, .int (iI v))] [] _ _ _ _
    refine pm_e_ret pm_a114_14 rfl rfl rfl rfl rfl rfl rfl rfl ?_
    exact k a (fun _ _ => rfl)
  · skip
    show pm_E _ _ _ 4 [(0, .ref (pl 207)), (1, .int (iI p)), (2, .int (iI v))] [] _ _ _ _
    refine pm_e_sim pm_a114_4 rfl ?_
    show pm_E _ _ _ 5 [(0, .ref (pl 207)), (1, .int (iI p)), (2, .int (iI v))] [.int (iI p)] _ _ _ _
    refine pm_e_sim pm_a114_5 rfl ?_
    show pm_E _ _ _ 6 [(0, .ref (pl 207)), (1, .int (iI p)), (2, .int (iI v))] [.ref (pl 207), .int (iI p)] _ _ _ _
    refine pm_i_aln pm_a114_6 (cg_207 hW h203) ?_
    show pm_E _ _ _ 7 [(0, .ref (pl 207)), (1, .int (iI p)), (2, .int (iI v))] [.int (iI 2800), .int (iI p)] _ _ _ _
    refine pm_c_ge (t := 14) pm_a114_7 rfl ⟨by omega, by omega⟩ ⟨by omega, by omega⟩ (fun h_2 => ?_) (fun h_2 => ?_)
    · skip
      show pm_E _ _ _ 14 [(0, .ref (pl 207)), (1, .int (iI p)), (2, .int (iI v))] [] _ _ _ _
      refine pm_e_ret pm_a114_14 rfl rfl rfl rfl rfl rfl rfl rfl ?_
      exact k a (fun _ _ => rfl)
    · skip
      show pm_E _ _ _ 10 [(0, .ref (pl 207)), (1, .int (iI p)), (2, .int (iI v))] [] _ _ _ _
      refine pm_e_sim pm_a114_10 rfl ?_
      show pm_E _ _ _ 11 [(0, .ref (pl 207)), (1, .int (iI p)), (2, .int (iI v))] [.ref (pl 207)] _ _ _ _
      refine pm_e_sim pm_a114_11 rfl ?_
      show pm_E _ _ _ 12 [(0, .ref (pl 207)), (1, .int (iI p)), (2, .int (iI v))] [.int (iI p), .ref (pl 207)] _ _ _ _
      refine pm_e_sim pm_a114_12 rfl ?_
      show pm_E _ _ _ 13 [(0, .ref (pl 207)), (1, .int (iI p)), (2, .int (iI v))] [.int (iI v), .int (iI p), .ref (pl 207)] _ _ _ _
      refine pm_i_ast pm_a114_13 (cg_207 hW h203) (by omega) (by omega) ⟨by omega, by omega⟩ (ca_207 hW h203 _) ?_
      show pm_E _ _ _ 14 [(0, .ref (pl 207)), (1, .int (iI p)), (2, .int (iI v))] [] _ _ _ _
      refine pm_e_ret pm_a114_14 rfl rfl rfl rfl rfl rfl rfl rfl ?_
      exact k _ (fun i hi => updA_lt (by omega) hi)
set_option maxHeartbeats 4000000 in
set_option maxRecDepth 100000 in
theorem C_yat_208 {d n : Nat} {kd pl : Nat → Nat} {s : Nat → Int} {a : Nat → Int → Int} {c : Nat → cdt} {M : List va_E} {Q : Option Value → List va_E → Nat → Nat → Prop} {p : Int} (hW : wf n kd pl) (h203 : al n kd pl 203) (hp : in32 p) (k : ∀ r, in32 r → Q (some (.int (iI r))) (ch n kd pl s a c M) 0 0) : pm_E none d pm_mm123 0 [(0, .ref (pl 208)), (1, .int (iI p))] [] (ch n kd pl s a c M) 0 0 Q := by
  obtain ⟨_, _⟩ := id hp
  refine pm_e_sim pm_a123_0 rfl ?_
  show pm_E _ _ _ 1 [(0, .ref (pl 208)), (1, .int (iI p))] [.int (iI p)] _ _ _ _
  refine pm_i_lt (t := 16) pm_a123_1 rfl ⟨by omega, by omega⟩ (fun h_1 => ?_) (fun h_1 => ?_)
  · skip
    show pm_E _ _ _ 16 [(0, .ref (pl 208)), (1, .int (iI p))] [] _ _ _ _
    refine pm_e_sim pm_a123_16 rfl ?_
    refine pm_e_top (y := iI 0) (by decide +kernel) ?_
    show pm_E _ _ _ 17 [(0, .ref (pl 208)), (1, .int (iI p))] [.int (iI 0)] _ _ _ _
    refine pm_e_ret pm_a123_17 rfl rfl rfl rfl rfl rfl rfl rfl ?_
    exact k 0 (by decide)
  · skip
    show pm_E _ _ _ 4 [(0, .ref (pl 208)), (1, .int (iI p))] [] _ _ _ _
    refine pm_e_sim pm_a123_4 rfl ?_
    show pm_E _ _ _ 5 [(0, .ref (pl 208)), (1, .int (iI p))] [.int (iI p)] _ _ _ _
    refine pm_e_sim pm_a123_5 rfl ?_
    show pm_E _ _ _ 6 [(0, .ref (pl 208)), (1, .int (iI p))] [.ref (pl 208), .int (iI p)] _ _ _ _
    refine pm_i_aln pm_a123_6 (cg_208 hW h203) ?_
    show pm_E _ _ _ 7 [(0, .ref (pl 208)), (1, .int (iI p))] [.int (iI 2800), .int (iI p)] _ _ _ _
    refine pm_c_ge (t := 16) pm_a123_7 rfl ⟨by omega, by omega⟩ ⟨by omega, by omega⟩ (fun h_2 => ?_) (fun h_2 => ?_)
    · skip
      show pm_E _ _ _ 16 [(0, .ref (pl 208)), (1, .int (iI p))] [] _ _ _ _
      refine pm_e_sim pm_a123_16 rfl ?_
      refine pm_e_top (y := iI 0) (by decide +kernel) ?_
      show pm_E _ _ _ 17 [(0, .ref (pl 208)), (1, .int (iI p))] [.int (iI 0)] _ _ _ _
      refine pm_e_ret pm_a123_17 rfl rfl rfl rfl rfl rfl rfl rfl ?_
      exact k 0 (by decide)
    · skip
      show pm_E _ _ _ 10 [(0, .ref (pl 208)), (1, .int (iI p))] [] _ _ _ _
      refine pm_e_sim pm_a123_10 rfl ?_
      show pm_E _ _ _ 11 [(0, .ref (pl 208)), (1, .int (iI p))] [.ref (pl 208)] _ _ _ _
      refine pm_e_sim pm_a123_11 rfl ?_
      show pm_E _ _ _ 12 [(0, .ref (pl 208)), (1, .int (iI p))] [.int (iI p), .ref (pl 208)] _ _ _ _
      refine pm_i_ald pm_a123_12 (cg_208 hW h203) (by omega) (by omega) ⟨by omega, by omega⟩ ?_
      show pm_E _ _ _ 13 [(0, .ref (pl 208)), (1, .int (iI p))] [.int (iI ((a 13) (p)))] _ _ _ _
      refine pm_e_goto pm_a123_13 rfl ?_
      show pm_E _ _ _ 17 [(0, .ref (pl 208)), (1, .int (iI p))] [.int (iI ((a 13) (p)))] _ _ _ _
      refine pm_e_ret pm_a123_17 rfl rfl rfl rfl rfl rfl rfl rfl ?_
      refine pm_q_v (iI_of _).symm ?_
      exact k _ (in32_of _)
set_option maxHeartbeats 4000000 in
set_option maxRecDepth 100000 in
theorem C_yset_208 {d n : Nat} {kd pl : Nat → Nat} {s : Nat → Int} {a : Nat → Int → Int} {c : Nat → cdt} {M : List va_E} {Q : Option Value → List va_E → Nat → Nat → Prop} {p v : Int} (hW : wf n kd pl) (h203 : al n kd pl 203) (hp : in32 p) (k : ∀ a', (∀ i, i < 9 → a' i = a i) → Q none (ch n kd pl s a' c M) 0 0) : pm_E none d pm_mm114 0 [(0, .ref (pl 208)), (1, .int (iI p)), (2, .int (iI v))] [] (ch n kd pl s a c M) 0 0 Q := by
  obtain ⟨_, _⟩ := id hp
  refine pm_e_sim pm_a114_0 rfl ?_
  show pm_E _ _ _ 1 [(0, .ref (pl 208)), (1, .int (iI p)), (2, .int (iI v))] [.int (iI p)] _ _ _ _
  refine pm_i_lt (t := 14) pm_a114_1 rfl ⟨by omega, by omega⟩ (fun h_1 => ?_) (fun h_1 => ?_)
  · skip
    show pm_E _ _ _ 14 [(0, .ref (pl 208)), (1, .int (iI p)), (2, .int (iI v))] [] _ _ _ _
    refine pm_e_ret pm_a114_14 rfl rfl rfl rfl rfl rfl rfl rfl ?_
    exact k a (fun _ _ => rfl)
  · skip
    show pm_E _ _ _ 4 [(0, .ref (pl 208)), (1, .int (iI p)), (2, .int (iI v))] [] _ _ _ _
    refine pm_e_sim pm_a114_4 rfl ?_
    show pm_E _ _ _ 5 [(0, .ref (pl 208)), (1, .int (iI p)), (2, .int (iI v))] [.int (iI p)] _ _ _ _
    refine pm_e_sim pm_a114_5 rfl ?_
    show pm_E _ _ _ 6 [(0, .ref (pl 208)), (1, .int (iI p)), (2, .int (iI v))] [.ref (pl 208), .int (iI p)] _ _ _ _
    refine pm_i_aln pm_a114_6 (cg_208 hW h203) ?_
    show pm_E _ _ _ 7 [(0, .ref (pl 208)), (1, .int (iI p)), (2, .int (iI v))] [.int (iI 2800), .int (iI p)] _ _ _ _
    refine pm_c_ge (t := 14) pm_a114_7 rfl ⟨by omega, by omega⟩ ⟨by omega, by omega⟩ (fun h_2 => ?_) (fun h_2 => ?_)
    · skip
      show pm_E _ _ _ 14 [(0, .ref (pl 208)), (1, .int (iI p)), (2, .int (iI v))] [] _ _ _ _
      refine pm_e_ret pm_a114_14 rfl rfl rfl rfl rfl rfl rfl rfl ?_
      exact k a (fun _ _ => rfl)
    · skip
      show pm_E _ _ _ 10 [(0, .ref (pl 208)), (1, .int (iI p)), (2, .int (iI v))] [] _ _ _ _
      refine pm_e_sim pm_a114_10 rfl ?_
      show pm_E _ _ _ 11 [(0, .ref (pl 208)), (1, .int (iI p)), (2, .int (iI v))] [.ref (pl 208)] _ _ _ _
      refine pm_e_sim pm_a114_11 rfl ?_
      show pm_E _ _ _ 12 [(0, .ref (pl 208)), (1, .int (iI p)), (2, .int (iI v))] [.int (iI p), .ref (pl 208)] _ _ _ _
      refine pm_e_sim pm_a114_12 rfl ?_
      show pm_E _ _ _ 13 [(0, .ref (pl 208)), (1, .int (iI p)), (2, .int (iI v))] [.int (iI v), .int (iI p), .ref (pl 208)] _ _ _ _
      refine pm_i_ast pm_a114_13 (cg_208 hW h203) (by omega) (by omega) ⟨by omega, by omega⟩ (ca_208 hW h203 _) ?_
      show pm_E _ _ _ 14 [(0, .ref (pl 208)), (1, .int (iI p)), (2, .int (iI v))] [] _ _ _ _
      refine pm_e_ret pm_a114_14 rfl rfl rfl rfl rfl rfl rfl rfl ?_
      exact k _ (fun i hi => updA_lt (by omega) hi)
set_option maxHeartbeats 4000000 in
set_option maxRecDepth 100000 in
theorem C_yat_209 {d n : Nat} {kd pl : Nat → Nat} {s : Nat → Int} {a : Nat → Int → Int} {c : Nat → cdt} {M : List va_E} {Q : Option Value → List va_E → Nat → Nat → Prop} {p : Int} (hW : wf n kd pl) (h203 : al n kd pl 203) (hp : in32 p) (k : ∀ r, in32 r → Q (some (.int (iI r))) (ch n kd pl s a c M) 0 0) : pm_E none d pm_mm123 0 [(0, .ref (pl 209)), (1, .int (iI p))] [] (ch n kd pl s a c M) 0 0 Q := by
  obtain ⟨_, _⟩ := id hp
  refine pm_e_sim pm_a123_0 rfl ?_
  show pm_E _ _ _ 1 [(0, .ref (pl 209)), (1, .int (iI p))] [.int (iI p)] _ _ _ _
  refine pm_i_lt (t := 16) pm_a123_1 rfl ⟨by omega, by omega⟩ (fun h_1 => ?_) (fun h_1 => ?_)
  · skip
    show pm_E _ _ _ 16 [(0, .ref (pl 209)), (1, .int (iI p))] [] _ _ _ _
    refine pm_e_sim pm_a123_16 rfl ?_
    refine pm_e_top (y := iI 0) (by decide +kernel) ?_
    show pm_E _ _ _ 17 [(0, .ref (pl 209)), (1, .int (iI p))] [.int (iI 0)] _ _ _ _
    refine pm_e_ret pm_a123_17 rfl rfl rfl rfl rfl rfl rfl rfl ?_
    exact k 0 (by decide)
  · skip
    show pm_E _ _ _ 4 [(0, .ref (pl 209)), (1, .int (iI p))] [] _ _ _ _
    refine pm_e_sim pm_a123_4 rfl ?_
    show pm_E _ _ _ 5 [(0, .ref (pl 209)), (1, .int (iI p))] [.int (iI p)] _ _ _ _
    refine pm_e_sim pm_a123_5 rfl ?_
    show pm_E _ _ _ 6 [(0, .ref (pl 209)), (1, .int (iI p))] [.ref (pl 209), .int (iI p)] _ _ _ _
    refine pm_i_aln pm_a123_6 (cg_209 hW h203) ?_
    show pm_E _ _ _ 7 [(0, .ref (pl 209)), (1, .int (iI p))] [.int (iI 500), .int (iI p)] _ _ _ _
    refine pm_c_ge (t := 16) pm_a123_7 rfl ⟨by omega, by omega⟩ ⟨by omega, by omega⟩ (fun h_2 => ?_) (fun h_2 => ?_)
    · skip
      show pm_E _ _ _ 16 [(0, .ref (pl 209)), (1, .int (iI p))] [] _ _ _ _
      refine pm_e_sim pm_a123_16 rfl ?_
      refine pm_e_top (y := iI 0) (by decide +kernel) ?_
      show pm_E _ _ _ 17 [(0, .ref (pl 209)), (1, .int (iI p))] [.int (iI 0)] _ _ _ _
      refine pm_e_ret pm_a123_17 rfl rfl rfl rfl rfl rfl rfl rfl ?_
      exact k 0 (by decide)
    · skip
      show pm_E _ _ _ 10 [(0, .ref (pl 209)), (1, .int (iI p))] [] _ _ _ _
      refine pm_e_sim pm_a123_10 rfl ?_
      show pm_E _ _ _ 11 [(0, .ref (pl 209)), (1, .int (iI p))] [.ref (pl 209)] _ _ _ _
      refine pm_e_sim pm_a123_11 rfl ?_
      show pm_E _ _ _ 12 [(0, .ref (pl 209)), (1, .int (iI p))] [.int (iI p), .ref (pl 209)] _ _ _ _
      refine pm_i_ald pm_a123_12 (cg_209 hW h203) (by omega) (by omega) ⟨by omega, by omega⟩ ?_
      show pm_E _ _ _ 13 [(0, .ref (pl 209)), (1, .int (iI p))] [.int (iI ((a 14) (p)))] _ _ _ _
      refine pm_e_goto pm_a123_13 rfl ?_
      show pm_E _ _ _ 17 [(0, .ref (pl 209)), (1, .int (iI p))] [.int (iI ((a 14) (p)))] _ _ _ _
      refine pm_e_ret pm_a123_17 rfl rfl rfl rfl rfl rfl rfl rfl ?_
      refine pm_q_v (iI_of _).symm ?_
      exact k _ (in32_of _)
set_option maxHeartbeats 4000000 in
set_option maxRecDepth 100000 in
theorem C_yset_209 {d n : Nat} {kd pl : Nat → Nat} {s : Nat → Int} {a : Nat → Int → Int} {c : Nat → cdt} {M : List va_E} {Q : Option Value → List va_E → Nat → Nat → Prop} {p v : Int} (hW : wf n kd pl) (h203 : al n kd pl 203) (hp : in32 p) (k : ∀ a', (∀ i, i < 9 → a' i = a i) → Q none (ch n kd pl s a' c M) 0 0) : pm_E none d pm_mm114 0 [(0, .ref (pl 209)), (1, .int (iI p)), (2, .int (iI v))] [] (ch n kd pl s a c M) 0 0 Q := by
  obtain ⟨_, _⟩ := id hp
  refine pm_e_sim pm_a114_0 rfl ?_
  show pm_E _ _ _ 1 [(0, .ref (pl 209)), (1, .int (iI p)), (2, .int (iI v))] [.int (iI p)] _ _ _ _
  refine pm_i_lt (t := 14) pm_a114_1 rfl ⟨by omega, by omega⟩ (fun h_1 => ?_) (fun h_1 => ?_)
  · skip
    show pm_E _ _ _ 14 [(0, .ref (pl 209)), (1, .int (iI p)), (2, .int (iI v))] [] _ _ _ _
    refine pm_e_ret pm_a114_14 rfl rfl rfl rfl rfl rfl rfl rfl ?_
    exact k a (fun _ _ => rfl)
  · skip
    show pm_E _ _ _ 4 [(0, .ref (pl 209)), (1, .int (iI p)), (2, .int (iI v))] [] _ _ _ _
    refine pm_e_sim pm_a114_4 rfl ?_
    show pm_E _ _ _ 5 [(0, .ref (pl 209)), (1, .int (iI p)), (2, .int (iI v))] [.int (iI p)] _ _ _ _
    refine pm_e_sim pm_a114_5 rfl ?_
    show pm_E _ _ _ 6 [(0, .ref (pl 209)), (1, .int (iI p)), (2, .int (iI v))] [.ref (pl 209), .int (iI p)] _ _ _ _
    refine pm_i_aln pm_a114_6 (cg_209 hW h203) ?_
    show pm_E _ _ _ 7 [(0, .ref (pl 209)), (1, .int (iI p)), (2, .int (iI v))] [.int (iI 500), .int (iI p)] _ _ _ _
    refine pm_c_ge (t := 14) pm_a114_7 rfl ⟨by omega, by omega⟩ ⟨by omega, by omega⟩ (fun h_2 => ?_) (fun h_2 => ?_)
    · skip
      show pm_E _ _ _ 14 [(0, .ref (pl 209)), (1, .int (iI p)), (2, .int (iI v))] [] _ _ _ _
      refine pm_e_ret pm_a114_14 rfl rfl rfl rfl rfl rfl rfl rfl ?_
      exact k a (fun _ _ => rfl)
    · skip
      show pm_E _ _ _ 10 [(0, .ref (pl 209)), (1, .int (iI p)), (2, .int (iI v))] [] _ _ _ _
      refine pm_e_sim pm_a114_10 rfl ?_
      show pm_E _ _ _ 11 [(0, .ref (pl 209)), (1, .int (iI p)), (2, .int (iI v))] [.ref (pl 209)] _ _ _ _
      refine pm_e_sim pm_a114_11 rfl ?_
      show pm_E _ _ _ 12 [(0, .ref (pl 209)), (1, .int (iI p)), (2, .int (iI v))] [.int (iI p), .ref (pl 209)] _ _ _ _
      refine pm_e_sim pm_a114_12 rfl ?_
      show pm_E _ _ _ 13 [(0, .ref (pl 209)), (1, .int (iI p)), (2, .int (iI v))] [.int (iI v), .int (iI p), .ref (pl 209)] _ _ _ _
      refine pm_i_ast pm_a114_13 (cg_209 hW h203) (by omega) (by omega) ⟨by omega, by omega⟩ (ca_209 hW h203 _) ?_
      show pm_E _ _ _ 14 [(0, .ref (pl 209)), (1, .int (iI p)), (2, .int (iI v))] [] _ _ _ _
      refine pm_e_ret pm_a114_14 rfl rfl rfl rfl rfl rfl rfl rfl ?_
      exact k _ (fun i hi => updA_lt (by omega) hi)
set_option maxHeartbeats 4000000 in
set_option maxRecDepth 100000 in
theorem C_y_isArrow {d n : Nat} {kd pl : Nat → Nat} {s : Nat → Int} {a : Nat → Int → Int} {c : Nat → cdt} {M : List va_E} {Q : Option Value → List va_E → Nat → Nat → Prop} {x : Int} (hW : wf n kd pl) (h203 : al n kd pl 203) (hx : in32 x) (k1 : Q (some (.int (iI 1))) (ch n kd pl s a c M) 0 0) (k0 : Q (some (.int (iI 0))) (ch n kd pl s a c M) 0 0) : pm_E none (d + 1) pm_mm124 0 [(0, .ref (pl 203)), (1, .int (iI x))] [] (ch n kd pl s a c M) 0 0 Q := by
  obtain ⟨_, _⟩ := id hx
  refine pm_e_sim pm_a124_0 rfl ?_
  show pm_E _ _ _ 1 [(0, .ref (pl 203)), (1, .int (iI x))] [.ref (pl 203)] _ _ _ _
  refine pm_i_get pm_a124_1 rfl (cg_203 hW h203) rfl ?_
  show pm_E _ _ _ 4 [(0, .ref (pl 203)), (1, .int (iI x))] [.ref (pl 204)] _ _ _ _
  refine pm_e_sim pm_a124_4 rfl ?_
  show pm_E _ _ _ 5 [(0, .ref (pl 203)), (1, .int (iI x))] [.int (iI x), .ref (pl 204)] _ _ _ _
  refine pm_e_call (T2 := pm_mm123) pm_a124_5 rfl rfl rfl rfl rfl rfl rfl rfl rfl ?_
  show pm_E none _ _ 0 [(0, .ref (pl 204)), (1, .int (iI x))] [] _ _ _ _
  refine C_yat_204 hW h203 ⟨by omega, by omega⟩ (fun v_1 b_1 => ?_)
  obtain ⟨_, _⟩ := b_1
  show pm_E _ _ _ 8 [(0, .ref (pl 203)), (1, .int (iI x))] [.int (iI v_1)] _ _ _ _
  refine pm_e_sim pm_a124_8 rfl ?_
  refine pm_e_top (y := iI (-1)) (by decide +kernel) ?_
  show pm_E _ _ _ 9 [(0, .ref (pl 203)), (1, .int (iI x))] [.int (iI (-1)), .int (iI v_1)] _ _ _ _
  refine pm_c_eq (t := 16) pm_a124_9 rfl ⟨by omega, by omega⟩ ⟨by omega, by omega⟩ (fun h_2 => ?_) (fun h_2 => ?_)
  · skip
    show pm_E _ _ _ 16 [(0, .ref (pl 203)), (1, .int (iI x))] [] _ _ _ _
    refine pm_e_sim pm_a124_16 rfl ?_
    refine pm_e_top (y := iI 0) (by decide +kernel) ?_
    show pm_E _ _ _ 17 [(0, .ref (pl 203)), (1, .int (iI x))] [.int (iI 0)] _ _ _ _
    refine pm_e_ret pm_a124_17 rfl rfl rfl rfl rfl rfl rfl rfl ?_
    exact k0
  · skip
    show pm_E _ _ _ 12 [(0, .ref (pl 203)), (1, .int (iI x))] [] _ _ _ _
    refine pm_e_sim pm_a124_12 rfl ?_
    refine pm_e_top (y := iI 1) (by decide +kernel) ?_
    show pm_E _ _ _ 13 [(0, .ref (pl 203)), (1, .int (iI x))] [.int (iI 1)] _ _ _ _
    refine pm_e_goto pm_a124_13 rfl ?_
    show pm_E _ _ _ 17 [(0, .ref (pl 203)), (1, .int (iI x))] [.int (iI 1)] _ _ _ _
    refine pm_e_ret pm_a124_17 rfl rfl rfl rfl rfl rfl rfl rfl ?_
    exact k1
set_option maxHeartbeats 4000000 in
set_option maxRecDepth 100000 in
theorem C_y_arrow {d n : Nat} {kd pl : Nat → Nat} {s : Nat → Int} {a : Nat → Int → Int} {c : Nat → cdt} {M : List va_E} {Q : Option Value → List va_E → Nat → Nat → Prop} {x y : Int} (hW : wf n kd pl) (h203 : al n kd pl 203) (ho : tyO s c) (hx : in32 x) (hy : in32 y) (k : ∀ s' a' c' r, tyF s a c s' a' c' → in32 r → Q (some (.int (iI r))) (ch n kd pl s' a' c' M) 0 0) : pm_E none (d + 1) pm_mm113 0 [(0, .ref (pl 203)), (1, .int (iI x)), (2, .int (iI y))] [] (ch n kd pl s a c M) 0 0 Q := by
  obtain ⟨⟨_, _, _, _⟩, ⟨_, _, _, _⟩, ⟨_, _⟩, ⟨_, _⟩, ⟨_, _⟩⟩ := id ho
  have rb4 := rm_b 4
  have rb5 := rm_b 5
  obtain ⟨_, _⟩ := id hx
  obtain ⟨_, _⟩ := id hy
  refine pm_e_sim pm_a113_0 rfl ?_
  show pm_E _ _ _ 1 [(0, .ref (pl 203)), (1, .int (iI x)), (2, .int (iI y))] [.ref (pl 203)] _ _ _ _
  refine pm_i_get pm_a113_1 rfl (cg_203 hW h203) rfl ?_
  show pm_E _ _ _ 4 [(0, .ref (pl 203)), (1, .int (iI x)), (2, .int (iI y))] [.int (iI (s 20))] _ _ _ _
  refine pm_e_sim pm_a113_4 rfl ?_
  refine pm_e_top (y := iI 2799) (by decide +kernel) ?_
  show pm_E _ _ _ 7 [(0, .ref (pl 203)), (1, .int (iI x)), (2, .int (iI y))] [.int (iI 2799), .int (iI (s 20))] _ _ _ _
  refine pm_i_min pm_a113_7 rfl (Nat.le_of_ble_eq_true rfl) ⟨by omega, by omega⟩ ⟨by omega, by omega⟩ ?_
  show pm_E _ _ _ 10 [(0, .ref (pl 203)), (1, .int (iI x)), (2, .int (iI y))] [.int (iI (min (s 20) 2799))] _ _ _ _
  refine pm_e_sim pm_a113_10 rfl ?_
  show pm_E _ _ _ 11 [(0, .ref (pl 203)), (1, .int (iI x)), (2, .int (iI y)), (3, .int (iI (min (s 20) 2799)))] [] _ _ _ _
  refine pm_e_sim pm_a113_11 rfl ?_
  show pm_E _ _ _ 12 [(0, .ref (pl 203)), (1, .int (iI x)), (2, .int (iI y)), (3, .int (iI (min (s 20) 2799)))] [.ref (pl 203)] _ _ _ _
  refine pm_i_get pm_a113_12 rfl (cg_203 hW h203) rfl ?_
  show pm_E _ _ _ 15 [(0, .ref (pl 203)), (1, .int (iI x)), (2, .int (iI y)), (3, .int (iI (min (s 20) 2799)))] [.ref (pl 204)] _ _ _ _
  refine pm_e_sim pm_a113_15 rfl ?_
  show pm_E _ _ _ 16 [(0, .ref (pl 203)), (1, .int (iI x)), (2, .int (iI y)), (3, .int (iI (min (s 20) 2799)))] [.int (iI (min (s 20) 2799)), .ref (pl 204)] _ _ _ _
  refine pm_e_sim pm_a113_16 rfl ?_
  show pm_E _ _ _ 17 [(0, .ref (pl 203)), (1, .int (iI x)), (2, .int (iI y)), (3, .int (iI (min (s 20) 2799)))] [.int (iI x), .int (iI (min (s 20) 2799)), .ref (pl 204)] _ _ _ _
  refine pm_e_call (T2 := pm_mm114) pm_a113_17 rfl rfl rfl rfl rfl rfl rfl rfl rfl ?_
  show pm_E none _ _ 0 [(0, .ref (pl 204)), (1, .int (iI (min (s 20) 2799))), (2, .int (iI x))] [] _ _ _ _
  have f_1 := (tyF_r (a := a) ho)
  refine C_yset_204 hW h203 ⟨by omega, by omega⟩ (fun a_1 g_1 => ?_)
  show pm_E _ _ _ 20 [(0, .ref (pl 203)), (1, .int (iI x)), (2, .int (iI y)), (3, .int (iI (min (s 20) 2799)))] [] _ _ _ _
  refine pm_e_sim pm_a113_20 rfl ?_
  show pm_E _ _ _ 21 [(0, .ref (pl 203)), (1, .int (iI x)), (2, .int (iI y)), (3, .int (iI (min (s 20) 2799)))] [.ref (pl 203)] _ _ _ _
  refine pm_i_get pm_a113_21 rfl (cg_203 hW h203) rfl ?_
  show pm_E _ _ _ 24 [(0, .ref (pl 203)), (1, .int (iI x)), (2, .int (iI y)), (3, .int (iI (min (s 20) 2799)))] [.ref (pl 205)] _ _ _ _
  refine pm_e_sim pm_a113_24 rfl ?_
  show pm_E _ _ _ 25 [(0, .ref (pl 203)), (1, .int (iI x)), (2, .int (iI y)), (3, .int (iI (min (s 20) 2799)))] [.int (iI (min (s 20) 2799)), .ref (pl 205)] _ _ _ _
  refine pm_e_sim pm_a113_25 rfl ?_
  show pm_E _ _ _ 26 [(0, .ref (pl 203)), (1, .int (iI x)), (2, .int (iI y)), (3, .int (iI (min (s 20) 2799)))] [.int (iI y), .int (iI (min (s 20) 2799)), .ref (pl 205)] _ _ _ _
  refine pm_e_call (T2 := pm_mm114) pm_a113_26 rfl rfl rfl rfl rfl rfl rfl rfl rfl ?_
  show pm_E none _ _ 0 [(0, .ref (pl 205)), (1, .int (iI (min (s 20) 2799))), (2, .int (iI y))] [] _ _ _ _
  have f_2 := (tyF_a f_1 g_1)
  refine C_yset_205 hW h203 ⟨by omega, by omega⟩ (fun a_2 g_2 => ?_)
  show pm_E _ _ _ 29 [(0, .ref (pl 203)), (1, .int (iI x)), (2, .int (iI y)), (3, .int (iI (min (s 20) 2799)))] [] _ _ _ _
  refine pm_e_sim pm_a113_29 rfl ?_
  show pm_E _ _ _ 30 [(0, .ref (pl 203)), (1, .int (iI x)), (2, .int (iI y)), (3, .int (iI (min (s 20) 2799)))] [.ref (pl 203)] _ _ _ _
  refine pm_i_get pm_a113_30 rfl (cg_203 hW h203) rfl ?_
  show pm_E _ _ _ 33 [(0, .ref (pl 203)), (1, .int (iI x)), (2, .int (iI y)), (3, .int (iI (min (s 20) 2799)))] [.ref (pl 206)] _ _ _ _
  refine pm_e_sim pm_a113_33 rfl ?_
  show pm_E _ _ _ 34 [(0, .ref (pl 203)), (1, .int (iI x)), (2, .int (iI y)), (3, .int (iI (min (s 20) 2799)))] [.int (iI (min (s 20) 2799)), .ref (pl 206)] _ _ _ _
  refine pm_e_sim pm_a113_34 rfl ?_
  show pm_E _ _ _ 35 [(0, .ref (pl 203)), (1, .int (iI x)), (2, .int (iI y)), (3, .int (iI (min (s 20) 2799)))] [.int (iI (min (s 20) 2799)), .int (iI (min (s 20) 2799)), .ref (pl 206)] _ _ _ _
  refine pm_e_call (T2 := pm_mm114) pm_a113_35 rfl rfl rfl rfl rfl rfl rfl rfl rfl ?_
  show pm_E none _ _ 0 [(0, .ref (pl 206)), (1, .int (iI (min (s 20) 2799))), (2, .int (iI (min (s 20) 2799)))] [] _ _ _ _
  have f_3 := (tyF_a f_2 g_2)
  refine C_yset_206 hW h203 ⟨by omega, by omega⟩ (fun a_3 g_3 => ?_)
  show pm_E _ _ _ 38 [(0, .ref (pl 203)), (1, .int (iI x)), (2, .int (iI y)), (3, .int (iI (min (s 20) 2799)))] [] _ _ _ _
  refine pm_e_sim pm_a113_38 rfl ?_
  show pm_E _ _ _ 39 [(0, .ref (pl 203)), (1, .int (iI x)), (2, .int (iI y)), (3, .int (iI (min (s 20) 2799)))] [.ref (pl 203)] _ _ _ _
  refine pm_e_sim pm_a113_39 rfl ?_
  show pm_E _ _ _ 40 [(0, .ref (pl 203)), (1, .int (iI x)), (2, .int (iI y)), (3, .int (iI (min (s 20) 2799)))] [.int (iI (min (s 20) 2799)), .ref (pl 203)] _ _ _ _
  refine pm_e_sim pm_a113_40 rfl ?_
  refine pm_e_top (y := iI 1) (by decide +kernel) ?_
  show pm_E _ _ _ 41 [(0, .ref (pl 203)), (1, .int (iI x)), (2, .int (iI y)), (3, .int (iI (min (s 20) 2799)))] [.int (iI 1), .int (iI (min (s 20) 2799)), .ref (pl 203)] _ _ _ _
  refine pm_e_sim pm_a113_41 rfl ?_
  refine pm_e_top (y := iI (min (s 20) 2799 + 1)) (iI_add _ _) ?_
  show pm_E _ _ _ 42 [(0, .ref (pl 203)), (1, .int (iI x)), (2, .int (iI y)), (3, .int (iI (min (s 20) 2799)))] [.int (iI (min (s 20) 2799 + 1)), .ref (pl 203)] _ _ _ _
  refine pm_i_put pm_a113_42 rfl (cg_203 hW h203) rfl (Nat.le_of_ble_eq_true rfl) (Or.inl rfl) (cw_20 hW h203 (min (s 20) 2799 + 1)) ?_
  show pm_E _ _ _ 45 [(0, .ref (pl 203)), (1, .int (iI x)), (2, .int (iI y)), (3, .int (iI (min (s 20) 2799)))] [] _ _ _ _
  refine pm_e_sim pm_a113_45 rfl ?_
  show pm_E _ _ _ 46 [(0, .ref (pl 203)), (1, .int (iI x)), (2, .int (iI y)), (3, .int (iI (min (s 20) 2799)))] [.int (iI (min (s 20) 2799))] _ _ _ _
  refine pm_e_ret pm_a113_46 rfl rfl rfl rfl rfl rfl rfl rfl ?_
  exact k _ _ _ _ (tyF_p20 (v := min (s 20) 2799 + 1) (tyF_a f_3 g_3) ⟨by omega, by omega⟩) ⟨by omega, by omega⟩
set_option maxHeartbeats 4000000 in
set_option maxRecDepth 100000 in
theorem C_y_any {d n : Nat} {kd pl : Nat → Nat} {s : Nat → Int} {a : Nat → Int → Int} {c : Nat → cdt} {M : List va_E} {Q : Option Value → List va_E → Nat → Nat → Prop} (hW : wf n kd pl) (h203 : al n kd pl 203) (ho : tyO s c)  (k : ∀ s' a' c' r, tyF s a c s' a' c' → in32 r → Q (some (.int (iI r))) (ch n kd pl s' a' c' M) 0 0) : pm_E none (d + 2) pm_mm112 0 [(0, .ref (pl 203))] [] (ch n kd pl s a c M) 0 0 Q := by
  obtain ⟨⟨_, _, _, _⟩, ⟨_, _, _, _⟩, ⟨_, _⟩, ⟨_, _⟩, ⟨_, _⟩⟩ := id ho
  have rb4 := rm_b 4
  have rb5 := rm_b 5
  refine pm_e_sim pm_a112_0 rfl ?_
  show pm_E _ _ _ 1 [(0, .ref (pl 203))] [.ref (pl 203)] _ _ _ _
  refine pm_e_sim pm_a112_1 rfl ?_
  refine pm_e_top (y := iI (-1)) (by decide +kernel) ?_
  show pm_E _ _ _ 2 [(0, .ref (pl 203))] [.int (iI (-1)), .ref (pl 203)] _ _ _ _
  refine pm_e_sim pm_a112_2 rfl ?_
  refine pm_e_top (y := iI (-1)) (by decide +kernel) ?_
  show pm_E _ _ _ 3 [(0, .ref (pl 203))] [.int (iI (-1)), .int (iI (-1)), .ref (pl 203)] _ _ _ _
  refine pm_i_callv (k := (pl 203)) (T2 := pm_mm113) pm_a112_3 rfl rfl rfl (cg_203 hW h203) ⟨Nat.le_of_ble_eq_true rfl, Nat.le_of_ble_eq_true rfl, rfl, by decide +kernel⟩ ?_
  show pm_E none _ _ 0 [(0, .ref (pl 203)), (1, .int (iI (-1))), (2, .int (iI (-1)))] [] _ _ _ _
  have f_1 := (tyF_r (a := a) ho)
  refine C_y_arrow hW h203 f_1.2.2.2 (by decide) (by decide) (fun s_1 a_1 c_1 v_1 g_1 b_1 => ?_)
  have e_1 := g_1.2.2.2
  obtain ⟨⟨_, _, _, _⟩, ⟨_, _, _, _⟩, ⟨_, _⟩, ⟨_, _⟩, ⟨_, _⟩⟩ := e_1
  obtain ⟨_, _⟩ := b_1
  show pm_E _ _ _ 6 [(0, .ref (pl 203))] [.int (iI v_1)] _ _ _ _
  refine pm_e_ret pm_a112_6 rfl rfl rfl rfl rfl rfl rfl rfl ?_
  exact k _ _ _ _ (tyF_t f_1 g_1) ⟨by omega, by omega⟩
set_option maxHeartbeats 4000000 in
set_option maxRecDepth 100000 in
theorem C_y_await {d n : Nat} {kd pl : Nat → Nat} {s : Nat → Int} {a : Nat → Int → Int} {c : Nat → cdt} {M : List va_E} {Q : Option Value → List va_E → Nat → Nat → Prop} {x : Int} (hW : wf n kd pl) (h203 : al n kd pl 203) (ho : tyO s c) (hx : in32 x) (k : ∀ s' a' c', tyF s a c s' a' c' → Q none (ch n kd pl s' a' c' M) 0 0) : pm_E none d pm_mm115 0 [(0, .ref (pl 203)), (1, .int (iI x))] [] (ch n kd pl s a c M) 0 0 Q := by
  obtain ⟨⟨_, _, _, _⟩, ⟨_, _, _, _⟩, ⟨_, _⟩, ⟨_, _⟩, ⟨_, _⟩⟩ := id ho
  have rb4 := rm_b 4
  have rb5 := rm_b 5
  obtain ⟨_, _⟩ := id hx
  refine pm_e_sim pm_a115_0 rfl ?_
  show pm_E _ _ _ 1 [(0, .ref (pl 203)), (1, .int (iI x))] [.ref (pl 203)] _ _ _ _
  refine pm_i_get pm_a115_1 rfl (cg_203 hW h203) rfl ?_
  show pm_E _ _ _ 4 [(0, .ref (pl 203)), (1, .int (iI x))] [.int (iI (s 21))] _ _ _ _
  refine pm_i_lt (t := 39) pm_a115_4 rfl ⟨by omega, by omega⟩ (fun h_1 => ?_) (fun h_1 => ?_)
  · skip
    show pm_E _ _ _ 39 [(0, .ref (pl 203)), (1, .int (iI x))] [] _ _ _ _
    refine pm_e_ret pm_a115_39 rfl rfl rfl rfl rfl rfl rfl rfl ?_
    exact k _ _ _ (tyF_r (a := a) ho)
  · skip
    show pm_E _ _ _ 7 [(0, .ref (pl 203)), (1, .int (iI x))] [] _ _ _ _
    refine pm_e_sim pm_a115_7 rfl ?_
    show pm_E _ _ _ 8 [(0, .ref (pl 203)), (1, .int (iI x))] [.ref (pl 203)] _ _ _ _
    refine pm_i_get pm_a115_8 rfl (cg_203 hW h203) rfl ?_
    show pm_E _ _ _ 11 [(0, .ref (pl 203)), (1, .int (iI x))] [.int (iI (s 21))] _ _ _ _
    refine pm_e_sim pm_a115_11 rfl ?_
    show pm_E _ _ _ 12 [(0, .ref (pl 203)), (1, .int (iI x))] [.ref (pl 203), .int (iI (s 21))] _ _ _ _
    refine pm_i_get pm_a115_12 rfl (cg_203 hW h203) rfl ?_
    show pm_E _ _ _ 15 [(0, .ref (pl 203)), (1, .int (iI x))] [.ref (pl 210), .int (iI (s 21))] _ _ _ _
    refine pm_i_aln pm_a115_15 (cg_210 hW h203) ?_
    show pm_E _ _ _ 16 [(0, .ref (pl 203)), (1, .int (iI x))] [.int (iI 501), .int (iI (s 21))] _ _ _ _
    refine pm_c_ge (t := 39) pm_a115_16 rfl ⟨by omega, by omega⟩ ⟨by omega, by omega⟩ (fun h_2 => ?_) (fun h_2 => ?_)
    · skip
      show pm_E _ _ _ 39 [(0, .ref (pl 203)), (1, .int (iI x))] [] _ _ _ _
      refine pm_e_ret pm_a115_39 rfl rfl rfl rfl rfl rfl rfl rfl ?_
      exact k _ _ _ (tyF_r (a := a) ho)
    · skip
      show pm_E _ _ _ 19 [(0, .ref (pl 203)), (1, .int (iI x))] [] _ _ _ _
      refine pm_e_sim pm_a115_19 rfl ?_
      show pm_E _ _ _ 20 [(0, .ref (pl 203)), (1, .int (iI x))] [.ref (pl 203)] _ _ _ _
      refine pm_i_get pm_a115_20 rfl (cg_203 hW h203) rfl ?_
      show pm_E _ _ _ 23 [(0, .ref (pl 203)), (1, .int (iI x))] [.ref (pl 210)] _ _ _ _
      refine pm_e_sim pm_a115_23 rfl ?_
      show pm_E _ _ _ 24 [(0, .ref (pl 203)), (1, .int (iI x))] [.ref (pl 203), .ref (pl 210)] _ _ _ _
      refine pm_i_get pm_a115_24 rfl (cg_203 hW h203) rfl ?_
      show pm_E _ _ _ 27 [(0, .ref (pl 203)), (1, .int (iI x))] [.int (iI (s 21)), .ref (pl 210)] _ _ _ _
      refine pm_e_sim pm_a115_27 rfl ?_
      show pm_E _ _ _ 28 [(0, .ref (pl 203)), (1, .int (iI x))] [.int (iI x), .int (iI (s 21)), .ref (pl 210)] _ _ _ _
      refine pm_i_ast pm_a115_28 (cg_210 hW h203) (by omega) (by omega) ⟨by omega, by omega⟩ (ca_210 hW h203 _) ?_
      show pm_E _ _ _ 29 [(0, .ref (pl 203)), (1, .int (iI x))] [] _ _ _ _
      refine pm_e_sim pm_a115_29 rfl ?_
      show pm_E _ _ _ 30 [(0, .ref (pl 203)), (1, .int (iI x))] [.ref (pl 203)] _ _ _ _
      refine pm_e_sim pm_a115_30 rfl ?_
      show pm_E _ _ _ 31 [(0, .ref (pl 203)), (1, .int (iI x))] [.ref (pl 203), .ref (pl 203)] _ _ _ _
      refine pm_i_get pm_a115_31 rfl (cg_203 hW h203) rfl ?_
      show pm_E _ _ _ 34 [(0, .ref (pl 203)), (1, .int (iI x))] [.int (iI (s 21)), .ref (pl 203)] _ _ _ _
      refine pm_e_sim pm_a115_34 rfl ?_
      refine pm_e_top (y := iI 1) (by decide +kernel) ?_
      show pm_E _ _ _ 35 [(0, .ref (pl 203)), (1, .int (iI x))] [.int (iI 1), .int (iI (s 21)), .ref (pl 203)] _ _ _ _
      refine pm_e_sim pm_a115_35 rfl ?_
      refine pm_e_top (y := iI (s 21 + 1)) (iI_add _ _) ?_
      show pm_E _ _ _ 36 [(0, .ref (pl 203)), (1, .int (iI x))] [.int (iI (s 21 + 1)), .ref (pl 203)] _ _ _ _
      refine pm_i_put pm_a115_36 rfl (cg_203 hW h203) rfl (Nat.le_of_ble_eq_true rfl) (Or.inl rfl) (cw_21 hW h203 (s 21 + 1)) ?_
      show pm_E _ _ _ 39 [(0, .ref (pl 203)), (1, .int (iI x))] [] _ _ _ _
      refine pm_e_ret pm_a115_39 rfl rfl rfl rfl rfl rfl rfl rfl ?_
      exact k _ _ _ (tyF_a (tyF_p21 (v := s 21 + 1) (tyF_r (a := a) ho) ⟨by omega, by omega⟩) (fun i hi => updA_lt (by omega) hi))
set_option maxHeartbeats 4000000 in
set_option maxRecDepth 100000 in
theorem C_y_nextWaiting {d n : Nat} {kd pl : Nat → Nat} {s : Nat → Int} {a : Nat → Int → Int} {c : Nat → cdt} {M : List va_E} {Q : Option Value → List va_E → Nat → Nat → Prop} (hW : wf n kd pl) (h203 : al n kd pl 203) (ho : tyO s c)  (k : ∀ s' a' c' r, tyF s a c s' a' c' → in32 r → Q (some (.int (iI r))) (ch n kd pl s' a' c' M) 0 0) : pm_E none d pm_mm116 0 [(0, .ref (pl 203))] [] (ch n kd pl s a c M) 0 0 Q := by
  obtain ⟨⟨_, _, _, _⟩, ⟨_, _, _, _⟩, ⟨_, _⟩, ⟨_, _⟩, ⟨_, _⟩⟩ := id ho
  have rb4 := rm_b 4
  have rb5 := rm_b 5
  refine pm_e_sim pm_a116_0 rfl ?_
  show pm_E _ _ _ 1 [(0, .ref (pl 203))] [.ref (pl 203)] _ _ _ _
  refine pm_i_get pm_a116_1 rfl (cg_203 hW h203) rfl ?_
  show pm_E _ _ _ 4 [(0, .ref (pl 203))] [.int (iI (s 21))] _ _ _ _
  refine pm_i_le (t := 19) pm_a116_4 rfl ⟨by omega, by omega⟩ (fun h_1 => ?_) (fun h_1 => ?_)
  · skip
    show pm_E _ _ _ 19 [(0, .ref (pl 203))] [] _ _ _ _
    refine pm_e_sim pm_a116_19 rfl ?_
    refine pm_e_top (y := iI 0) (by decide +kernel) ?_
    show pm_E _ _ _ 20 [(0, .ref (pl 203))] [.int (iI 0)] _ _ _ _
    refine pm_e_ret pm_a116_20 rfl rfl rfl rfl rfl rfl rfl rfl ?_
    exact k _ _ _ _ (tyF_r (a := a) ho) (by decide)
  · skip
    show pm_E _ _ _ 7 [(0, .ref (pl 203))] [] _ _ _ _
    refine pm_e_sim pm_a116_7 rfl ?_
    show pm_E _ _ _ 8 [(0, .ref (pl 203))] [.ref (pl 203)] _ _ _ _
    refine pm_i_get pm_a116_8 rfl (cg_203 hW h203) rfl ?_
    show pm_E _ _ _ 11 [(0, .ref (pl 203))] [.int (iI (s 21))] _ _ _ _
    refine pm_e_sim pm_a116_11 rfl ?_
    show pm_E _ _ _ 12 [(0, .ref (pl 203))] [.ref (pl 203), .int (iI (s 21))] _ _ _ _
    refine pm_i_get pm_a116_12 rfl (cg_203 hW h203) rfl ?_
    show pm_E _ _ _ 15 [(0, .ref (pl 203))] [.ref (pl 210), .int (iI (s 21))] _ _ _ _
    refine pm_i_aln pm_a116_15 (cg_210 hW h203) ?_
    show pm_E _ _ _ 16 [(0, .ref (pl 203))] [.int (iI 501), .int (iI (s 21))] _ _ _ _
    refine pm_c_le (t := 21) pm_a116_16 rfl ⟨by omega, by omega⟩ ⟨by omega, by omega⟩ (fun h_2 => ?_) (fun h_2 => ?_)
    · skip
      show pm_E _ _ _ 21 [(0, .ref (pl 203))] [] _ _ _ _
      refine pm_e_sim pm_a116_21 rfl ?_
      show pm_E _ _ _ 22 [(0, .ref (pl 203))] [.ref (pl 203)] _ _ _ _
      refine pm_e_sim pm_a116_22 rfl ?_
      show pm_E _ _ _ 23 [(0, .ref (pl 203))] [.ref (pl 203), .ref (pl 203)] _ _ _ _
      refine pm_i_get pm_a116_23 rfl (cg_203 hW h203) rfl ?_
      show pm_E _ _ _ 26 [(0, .ref (pl 203))] [.int (iI (s 21)), .ref (pl 203)] _ _ _ _
      refine pm_e_sim pm_a116_26 rfl ?_
      refine pm_e_top (y := iI 1) (by decide +kernel) ?_
      show pm_E _ _ _ 27 [(0, .ref (pl 203))] [.int (iI 1), .int (iI (s 21)), .ref (pl 203)] _ _ _ _
      refine pm_e_sim pm_a116_27 rfl ?_
      refine pm_e_top (y := iI (s 21 - 1)) (iI_sub _ _) ?_
      show pm_E _ _ _ 28 [(0, .ref (pl 203))] [.int (iI (s 21 - 1)), .ref (pl 203)] _ _ _ _
      refine pm_i_put pm_a116_28 rfl (cg_203 hW h203) rfl (Nat.le_of_ble_eq_true rfl) (Or.inl rfl) (cw_21 hW h203 (s 21 - 1)) ?_
      show pm_E _ _ _ 31 [(0, .ref (pl 203))] [] _ _ _ _
      refine pm_e_sim pm_a116_31 rfl ?_
      show pm_E _ _ _ 32 [(0, .ref (pl 203))] [.ref (pl 203)] _ _ _ _
      refine pm_i_get pm_a116_32 rfl (cg_203 hW h203) rfl ?_
      show pm_E _ _ _ 35 [(0, .ref (pl 203))] [.ref (pl 210)] _ _ _ _
      refine pm_e_sim pm_a116_35 rfl ?_
      show pm_E _ _ _ 36 [(0, .ref (pl 203))] [.ref (pl 203), .ref (pl 210)] _ _ _ _
      refine pm_i_get pm_a116_36 rfl (cg_203 hW h203) rfl ?_
      show pm_E _ _ _ 39 [(0, .ref (pl 203))] [.int (iI (s 21 - 1)), .ref (pl 210)] _ _ _ _
      refine pm_i_ald pm_a116_39 (cg_210 hW h203) (by omega) (by omega) ⟨by omega, by omega⟩ ?_
      show pm_E _ _ _ 40 [(0, .ref (pl 203))] [.int (iI ((a 15) (s 21 - 1)))] _ _ _ _
      refine pm_e_ret pm_a116_40 rfl rfl rfl rfl rfl rfl rfl rfl ?_
      refine pm_q_v (iI_of _).symm ?_
      exact k _ _ _ _ (tyF_p21 (v := s 21 - 1) (tyF_r (a := a) ho) ⟨by omega, by omega⟩) (in32_of _)
    · skip
      show pm_E _ _ _ 19 [(0, .ref (pl 203))] [] _ _ _ _
      refine pm_e_sim pm_a116_19 rfl ?_
      refine pm_e_top (y := iI 0) (by decide +kernel) ?_
      show pm_E _ _ _ 20 [(0, .ref (pl 203))] [.int (iI 0)] _ _ _ _
      refine pm_e_ret pm_a116_20 rfl rfl rfl rfl rfl rfl rfl rfl ?_
      exact k _ _ _ _ (tyF_r (a := a) ho) (by decide)
