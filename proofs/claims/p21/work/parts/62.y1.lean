/-! THE CLASS: Typer, exactly: nodes, roots -/
set_option maxHeartbeats 4000000 in
set_option maxRecDepth 100000 in
theorem C_zat_204 {d n : Nat} {kd pl : Nat → Nat} {s : Nat → Int} {a : Nat → Int → Int} {c : Nat → cdt} {M : List va_E} {Q : Option Value → List va_E → Nat → Nat → Prop} {p : Int} (hW : wf n kd pl) (h203 : al n kd pl 203) (hp0 : 0 ≤ p) (hp1 : p < 2800) (k : Q (some (.int (iI (a 9 p)))) (ch n kd pl s a c M) 0 0) : pm_E none d pm_mm123 0 [(0, .ref (pl 204)), (1, .int (iI p))] [] (ch n kd pl s a c M) 0 0 Q := by
  refine pm_e_sim pm_a123_0 rfl ?_
  show pm_E _ _ _ 1 [(0, .ref (pl 204)), (1, .int (iI p))] [.int (iI p)] _ _ _ _
  refine pm_i_lt (t := 16) pm_a123_1 rfl ⟨by omega, by omega⟩ (fun h_1 => ?_) (fun h_1 => ?_)
  · skip
    show pm_E _ _ _ 16 [(0, .ref (pl 204)), (1, .int (iI p))] [] _ _ _ _
    refine pm_e_sim pm_a123_16 rfl ?_
    refine pm_e_top (y := iI 0) (by decide +kernel) ?_
    show pm_E _ _ _ 17 [(0, .ref (pl 204)), (1, .int (iI p))] [.int (iI 0)] _ _ _ _
    refine pm_e_ret pm_a123_17 rfl rfl rfl rfl rfl rfl rfl rfl ?_
    exfalso
    omega
  · skip
    show pm_E _ _ _ 4 [(0, .ref (pl 204)), (1, .int (iI p))] [] _ _ _ _
    refine pm_e_sim pm_a123_4 rfl ?_
    show pm_E _ _ _ 5 [(0, .ref (pl 204)), (1, .int (iI p))] [.int (iI p)] _ _ _ _
    refine pm_e_sim pm_a123_5 rfl ?_
    show pm_E _ _ _ 6 [(0, .ref (pl 204)), (1, .int (iI p))] [.ref (pl 204), .int (iI p)] _ _ _ _
    refine pm_i_aln pm_a123_6 (cg_204 hW h203) ?_
    show pm_E _ _ _ 7 [(0, .ref (pl 204)), (1, .int (iI p))] [.int (iI 2800), .int (iI p)] _ _ _ _
    refine pm_c_ge (t := 16) pm_a123_7 rfl ⟨by omega, by omega⟩ ⟨by omega, by omega⟩ (fun h_2 => ?_) (fun h_2 => ?_)
    · skip
      show pm_E _ _ _ 16 [(0, .ref (pl 204)), (1, .int (iI p))] [] _ _ _ _
      refine pm_e_sim pm_a123_16 rfl ?_
      refine pm_e_top (y := iI 0) (by decide +kernel) ?_
      show pm_E _ _ _ 17 [(0, .ref (pl 204)), (1, .int (iI p))] [.int (iI 0)] _ _ _ _
      refine pm_e_ret pm_a123_17 rfl rfl rfl rfl rfl rfl rfl rfl ?_
      exfalso
      omega
    · skip
      show pm_E _ _ _ 10 [(0, .ref (pl 204)), (1, .int (iI p))] [] _ _ _ _
      refine pm_e_sim pm_a123_10 rfl ?_
      show pm_E _ _ _ 11 [(0, .ref (pl 204)), (1, .int (iI p))] [.ref (pl 204)] _ _ _ _
      refine pm_e_sim pm_a123_11 rfl ?_
      show pm_E _ _ _ 12 [(0, .ref (pl 204)), (1, .int (iI p))] [.int (iI p), .ref (pl 204)] _ _ _ _
      refine pm_i_ald pm_a123_12 (cg_204 hW h203) (by omega) (by omega) ⟨by omega, by omega⟩ ?_
      show pm_E _ _ _ 13 [(0, .ref (pl 204)), (1, .int (iI p))] [.int (iI ((a 9) (p)))] _ _ _ _
      refine pm_e_goto pm_a123_13 rfl ?_
      show pm_E _ _ _ 17 [(0, .ref (pl 204)), (1, .int (iI p))] [.int (iI ((a 9) (p)))] _ _ _ _
      refine pm_e_ret pm_a123_17 rfl rfl rfl rfl rfl rfl rfl rfl ?_
      exact k
set_option maxHeartbeats 4000000 in
set_option maxRecDepth 100000 in
theorem C_zset_204 {d n : Nat} {kd pl : Nat → Nat} {s : Nat → Int} {a : Nat → Int → Int} {c : Nat → cdt} {M : List va_E} {Q : Option Value → List va_E → Nat → Nat → Prop} {p v : Int} (hW : wf n kd pl) (h203 : al n kd pl 203) (hp0 : 0 ≤ p) (hp1 : p < 2800) (k : Q none (ch n kd pl s (updA a 9 (updI (a 9) p v)) c M) 0 0) : pm_E none d pm_mm114 0 [(0, .ref (pl 204)), (1, .int (iI p)), (2, .int (iI v))] [] (ch n kd pl s a c M) 0 0 Q := by
  refine pm_e_sim pm_a114_0 rfl ?_
  show pm_E _ _ _ 1 [(0, .ref (pl 204)), (1, .int (iI p)), (2, .int (iI v))] [.int (iI p)] _ _ _ _
  refine pm_i_lt (t := 14) pm_a114_1 rfl ⟨by omega, by omega⟩ (fun h_1 => ?_) (fun h_1 => ?_)
  · skip
    show pm_E _ _ _ 14 [(0, .ref (pl 204)), (1, .int (iI p)), (2, .int (iI v))] [] _ _ _ _
    refine pm_e_ret pm_a114_14 rfl rfl rfl rfl rfl rfl rfl rfl ?_
    exfalso
    omega
  · skip
    show pm_E _ _ _ 4 [(0, .ref (pl 204)), (1, .int (iI p)), (2, .int (iI v))] [] _ _ _ _
    refine pm_e_sim pm_a114_4 rfl ?_
    show pm_E _ _ _ 5 [(0, .ref (pl 204)), (1, .int (iI p)), (2, .int (iI v))] [.int (iI p)] _ _ _ _
    refine pm_e_sim pm_a114_5 rfl ?_
    show pm_E _ _ _ 6 [(0, .ref (pl 204)), (1, .int (iI p)), (2, .int (iI v))] [.ref (pl 204), .int (iI p)] _ _ _ _
    refine pm_i_aln pm_a114_6 (cg_204 hW h203) ?_
    show pm_E _ _ _ 7 [(0, .ref (pl 204)), (1, .int (iI p)), (2, .int (iI v))] [.int (iI 2800), .int (iI p)] _ _ _ _
    refine pm_c_ge (t := 14) pm_a114_7 rfl ⟨by omega, by omega⟩ ⟨by omega, by omega⟩ (fun h_2 => ?_) (fun h_2 => ?_)
    · skip
      show pm_E _ _ _ 14 [(0, .ref (pl 204)), (1, .int (iI p)), (2, .int (iI v))] [] _ _ _ _
      refine pm_e_ret pm_a114_14 rfl rfl rfl rfl rfl rfl rfl rfl ?_
      exfalso
      omega
    · skip
      show pm_E _ _ _ 10 [(0, .ref (pl 204)), (1, .int (iI p)), (2, .int (iI v))] [] _ _ _ _
      refine pm_e_sim pm_a114_10 rfl ?_
      show pm_E _ _ _ 11 [(0, .ref (pl 204)), (1, .int (iI p)), (2, .int (iI v))] [.ref (pl 204)] _ _ _ _
      refine pm_e_sim pm_a114_11 rfl ?_
      show pm_E _ _ _ 12 [(0, .ref (pl 204)), (1, .int (iI p)), (2, .int (iI v))] [.int (iI p), .ref (pl 204)] _ _ _ _
      refine pm_e_sim pm_a114_12 rfl ?_
      show pm_E _ _ _ 13 [(0, .ref (pl 204)), (1, .int (iI p)), (2, .int (iI v))] [.int (iI v), .int (iI p), .ref (pl 204)] _ _ _ _
      refine pm_i_ast pm_a114_13 (cg_204 hW h203) (by omega) (by omega) ⟨by omega, by omega⟩ (ca_204 hW h203 _) ?_
      show pm_E _ _ _ 14 [(0, .ref (pl 204)), (1, .int (iI p)), (2, .int (iI v))] [] _ _ _ _
      refine pm_e_ret pm_a114_14 rfl rfl rfl rfl rfl rfl rfl rfl ?_
      exact k
set_option maxHeartbeats 4000000 in
set_option maxRecDepth 100000 in
theorem C_zat_205 {d n : Nat} {kd pl : Nat → Nat} {s : Nat → Int} {a : Nat → Int → Int} {c : Nat → cdt} {M : List va_E} {Q : Option Value → List va_E → Nat → Nat → Prop} {p : Int} (hW : wf n kd pl) (h203 : al n kd pl 203) (hp0 : 0 ≤ p) (hp1 : p < 2800) (k : Q (some (.int (iI (a 10 p)))) (ch n kd pl s a c M) 0 0) : pm_E none d pm_mm123 0 [(0, .ref (pl 205)), (1, .int (iI p))] [] (ch n kd pl s a c M) 0 0 Q := by
  refine pm_e_sim pm_a123_0 rfl ?_
  show pm_E _ _ _ 1 [(0, .ref (pl 205)), (1, .int (iI p))] [.int (iI p)] _ _ _ _
  refine pm_i_lt (t := 16) pm_a123_1 rfl ⟨by omega, by omega⟩ (fun h_1 => ?_) (fun h_1 => ?_)
  · skip
    show pm_E _ _ _ 16 [(0, .ref (pl 205)), (1, .int (iI p))] [] _ _ _ _
    refine pm_e_sim pm_a123_16 rfl ?_
    refine pm_e_top (y := iI 0) (by decide +kernel) ?_
    show pm_E _ _ _ 17 [(0, .ref (pl 205)), (1, .int (iI p))] [.int (iI 0)] _ _ _ _
    refine pm_e_ret pm_a123_17 rfl rfl rfl rfl rfl rfl rfl rfl ?_
    exfalso
    omega
  · skip
    show pm_E _ _ _ 4 [(0, .ref (pl 205)), (1, .int (iI p))] [] _ _ _ _
    refine pm_e_sim pm_a123_4 rfl ?_
    show pm_E _ _ _ 5 [(0, .ref (pl 205)), (1, .int (iI p))] [.int (iI p)] _ _ _ _
    refine pm_e_sim pm_a123_5 rfl ?_
    show pm_E _ _ _ 6 [(0, .ref (pl 205)), (1, .int (iI p))] [.ref (pl 205), .int (iI p)] _ _ _ _
    refine pm_i_aln pm_a123_6 (cg_205 hW h203) ?_
    show pm_E _ _ _ 7 [(0, .ref (pl 205)), (1, .int (iI p))] [.int (iI 2800), .int (iI p)] _ _ _ _
    refine pm_c_ge (t := 16) pm_a123_7 rfl ⟨by omega, by omega⟩ ⟨by omega, by omega⟩ (fun h_2 => ?_) (fun h_2 => ?_)
    · skip
      show pm_E _ _ _ 16 [(0, .ref (pl 205)), (1, .int (iI p))] [] _ _ _ _
      refine pm_e_sim pm_a123_16 rfl ?_
      refine pm_e_top (y := iI 0) (by decide +kernel) ?_
      show pm_E _ _ _ 17 [(0, .ref (pl 205)), (1, .int (iI p))] [.int (iI 0)] _ _ _ _
      refine pm_e_ret pm_a123_17 rfl rfl rfl rfl rfl rfl rfl rfl ?_
      exfalso
      omega
    · skip
      show pm_E _ _ _ 10 [(0, .ref (pl 205)), (1, .int (iI p))] [] _ _ _ _
      refine pm_e_sim pm_a123_10 rfl ?_
      show pm_E _ _ _ 11 [(0, .ref (pl 205)), (1, .int (iI p))] [.ref (pl 205)] _ _ _ _
      refine pm_e_sim pm_a123_11 rfl ?_
      show pm_E _ _ _ 12 [(0, .ref (pl 205)), (1, .int (iI p))] [.int (iI p), .ref (pl 205)] _ _ _ _
      refine pm_i_ald pm_a123_12 (cg_205 hW h203) (by omega) (by omega) ⟨by omega, by omega⟩ ?_
      show pm_E _ _ _ 13 [(0, .ref (pl 205)), (1, .int (iI p))] [.int (iI ((a 10) (p)))] _ _ _ _
      refine pm_e_goto pm_a123_13 rfl ?_
      show pm_E _ _ _ 17 [(0, .ref (pl 205)), (1, .int (iI p))] [.int (iI ((a 10) (p)))] _ _ _ _
      refine pm_e_ret pm_a123_17 rfl rfl rfl rfl rfl rfl rfl rfl ?_
      exact k
set_option maxHeartbeats 4000000 in
set_option maxRecDepth 100000 in
theorem C_zset_205 {d n : Nat} {kd pl : Nat → Nat} {s : Nat → Int} {a : Nat → Int → Int} {c : Nat → cdt} {M : List va_E} {Q : Option Value → List va_E → Nat → Nat → Prop} {p v : Int} (hW : wf n kd pl) (h203 : al n kd pl 203) (hp0 : 0 ≤ p) (hp1 : p < 2800) (k : Q none (ch n kd pl s (updA a 10 (updI (a 10) p v)) c M) 0 0) : pm_E none d pm_mm114 0 [(0, .ref (pl 205)), (1, .int (iI p)), (2, .int (iI v))] [] (ch n kd pl s a c M) 0 0 Q := by
  refine pm_e_sim pm_a114_0 rfl ?_
  show pm_E _ _ _ 1 [(0, .ref (pl 205)), (1, .int (iI p)), (2, .int (iI v))] [.int (iI p)] _ _ _ _
  refine pm_i_lt (t := 14) pm_a114_1 rfl ⟨by omega, by omega⟩ (fun h_1 => ?_) (fun h_1 => ?_)
  · skip
    show pm_E _ _ _ 14 [(0, .ref (pl 205)), (1, .int (iI p)), (2, .int (iI v))] [] _ _ _ _
    refine pm_e_ret pm_a114_14 rfl rfl rfl rfl rfl rfl rfl rfl ?_
    exfalso
    omega
  · skip
    show pm_E _ _ _ 4 [(0, .ref (pl 205)), (1, .int (iI p)), (2, .int (iI v))] [] _ _ _ _
    refine pm_e_sim pm_a114_4 rfl ?_
    show pm_E _ _ _ 5 [(0, .ref (pl 205)), (1, .int (iI p)), (2, .int (iI v))] [.int (iI p)] _ _ _ _
    refine pm_e_sim pm_a114_5 rfl ?_
    show pm_E _ _ _ 6 [(0, .ref (pl 205)), (1, .int (iI p)), (2, .int (iI v))] [.ref (pl 205), .int (iI p)] _ _ _ _
    refine pm_i_aln pm_a114_6 (cg_205 hW h203) ?_
    show pm_E _ _ _ 7 [(0, .ref (pl 205)), (1, .int (iI p)), (2, .int (iI v))] [.int (iI 2800), .int (iI p)] _ _ _ _
    refine pm_c_ge (t := 14) pm_a114_7 rfl ⟨by omega, by omega⟩ ⟨by omega, by omega⟩ (fun h_2 => ?_) (fun h_2 => ?_)
    · skip
      show pm_E _ _ _ 14 [(0, .ref (pl 205)), (1, .int (iI p)), (2, .int (iI v))] [] _ _ _ _
      refine pm_e_ret pm_a114_14 rfl rfl rfl rfl rfl rfl rfl rfl ?_
      exfalso
      omega
    · skip
      show pm_E _ _ _ 10 [(0, .ref (pl 205)), (1, .int (iI p)), (2, .int (iI v))] [] _ _ _ _
      refine pm_e_sim pm_a114_10 rfl ?_
      show pm_E _ _ _ 11 [(0, .ref (pl 205)), (1, .int (iI p)), (2, .int (iI v))] [.ref (pl 205)] _ _ _ _
      refine pm_e_sim pm_a114_11 rfl ?_
      show pm_E _ _ _ 12 [(0, .ref (pl 205)), (1, .int (iI p)), (2, .int (iI v))] [.int (iI p), .ref (pl 205)] _ _ _ _
      refine pm_e_sim pm_a114_12 rfl ?_
      show pm_E _ _ _ 13 [(0, .ref (pl 205)), (1, .int (iI p)), (2, .int (iI v))] [.int (iI v), .int (iI p), .ref (pl 205)] _ _ _ _
      refine pm_i_ast pm_a114_13 (cg_205 hW h203) (by omega) (by omega) ⟨by omega, by omega⟩ (ca_205 hW h203 _) ?_
      show pm_E _ _ _ 14 [(0, .ref (pl 205)), (1, .int (iI p)), (2, .int (iI v))] [] _ _ _ _
      refine pm_e_ret pm_a114_14 rfl rfl rfl rfl rfl rfl rfl rfl ?_
      exact k
set_option maxHeartbeats 4000000 in
set_option maxRecDepth 100000 in
theorem C_zat_206 {d n : Nat} {kd pl : Nat → Nat} {s : Nat → Int} {a : Nat → Int → Int} {c : Nat → cdt} {M : List va_E} {Q : Option Value → List va_E → Nat → Nat → Prop} {p : Int} (hW : wf n kd pl) (h203 : al n kd pl 203) (hp0 : 0 ≤ p) (hp1 : p < 2800) (k : Q (some (.int (iI (a 11 p)))) (ch n kd pl s a c M) 0 0) : pm_E none d pm_mm123 0 [(0, .ref (pl 206)), (1, .int (iI p))] [] (ch n kd pl s a c M) 0 0 Q := by
  refine pm_e_sim pm_a123_0 rfl ?_
  show pm_E _ _ _ 1 [(0, .ref (pl 206)), (1, .int (iI p))] [.int (iI p)] _ _ _ _
  refine pm_i_lt (t := 16) pm_a123_1 rfl ⟨by omega, by omega⟩ (fun h_1 => ?_) (fun h_1 => ?_)
  · skip
    show pm_E _ _ _ 16 [(0, .ref (pl 206)), (1, .int (iI p))] [] _ _ _ _
    refine pm_e_sim pm_a123_16 rfl ?_
    refine pm_e_top (y := iI 0) (by decide +kernel) ?_
    show pm_E _ _ _ 17 [(0, .ref (pl 206)), (1, .int (iI p))] [.int (iI 0)] _ _ _ _
    refine pm_e_ret pm_a123_17 rfl rfl rfl rfl rfl rfl rfl rfl ?_
    exfalso
    omega
  · skip
    show pm_E _ _ _ 4 [(0, .ref (pl 206)), (1, .int (iI p))] [] _ _ _ _
    refine pm_e_sim pm_a123_4 rfl ?_
    show pm_E _ _ _ 5 [(0, .ref (pl 206)), (1, .int (iI p))] [.int (iI p)] _ _ _ _
    refine pm_e_sim pm_a123_5 rfl ?_
    show pm_E _ _ _ 6 [(0, .ref (pl 206)), (1, .int (iI p))] [.ref (pl 206), .int (iI p)] _ _ _ _
    refine pm_i_aln pm_a123_6 (cg_206 hW h203) ?_
    show pm_E _ _ _ 7 [(0, .ref (pl 206)), (1, .int (iI p))] [.int (iI 2800), .int (iI p)] _ _ _ _
    refine pm_c_ge (t := 16) pm_a123_7 rfl ⟨by omega, by omega⟩ ⟨by omega, by omega⟩ (fun h_2 => ?_) (fun h_2 => ?_)
    · skip
      show pm_E _ _ _ 16 [(0, .ref (pl 206)), (1, .int (iI p))] [] _ _ _ _
      refine pm_e_sim pm_a123_16 rfl ?_
      refine pm_e_top (y := iI 0) (by decide +kernel) ?_
      show pm_E _ _ _ 17 [(0, .ref (pl 206)), (1, .int (iI p))] [.int (iI 0)] _ _ _ _
      refine pm_e_ret pm_a123_17 rfl rfl rfl rfl rfl rfl rfl rfl ?_
      exfalso
      omega
    · skip
      show pm_E _ _ _ 10 [(0, .ref (pl 206)), (1, .int (iI p))] [] _ _ _ _
      refine pm_e_sim pm_a123_10 rfl ?_
      show pm_E _ _ _ 11 [(0, .ref (pl 206)), (1, .int (iI p))] [.ref (pl 206)] _ _ _ _
      refine pm_e_sim pm_a123_11 rfl ?_
      show pm_E _ _ _ 12 [(0, .ref (pl 206)), (1, .int (iI p))] [.int (iI p), .ref (pl 206)] _ _ _ _
      refine pm_i_ald pm_a123_12 (cg_206 hW h203) (by omega) (by omega) ⟨by omega, by omega⟩ ?_
      show pm_E _ _ _ 13 [(0, .ref (pl 206)), (1, .int (iI p))] [.int (iI ((a 11) (p)))] _ _ _ _
      refine pm_e_goto pm_a123_13 rfl ?_
      show pm_E _ _ _ 17 [(0, .ref (pl 206)), (1, .int (iI p))] [.int (iI ((a 11) (p)))] _ _ _ _
      refine pm_e_ret pm_a123_17 rfl rfl rfl rfl rfl rfl rfl rfl ?_
      exact k
set_option maxHeartbeats 4000000 in
set_option maxRecDepth 100000 in
theorem C_zset_206 {d n : Nat} {kd pl : Nat → Nat} {s : Nat → Int} {a : Nat → Int → Int} {c : Nat → cdt} {M : List va_E} {Q : Option Value → List va_E → Nat → Nat → Prop} {p v : Int} (hW : wf n kd pl) (h203 : al n kd pl 203) (hp0 : 0 ≤ p) (hp1 : p < 2800) (k : Q none (ch n kd pl s (updA a 11 (updI (a 11) p v)) c M) 0 0) : pm_E none d pm_mm114 0 [(0, .ref (pl 206)), (1, .int (iI p)), (2, .int (iI v))] [] (ch n kd pl s a c M) 0 0 Q := by
  refine pm_e_sim pm_a114_0 rfl ?_
  show pm_E _ _ _ 1 [(0, .ref (pl 206)), (1, .int (iI p)), (2, .int (iI v))] [.int (iI p)] _ _ _ _
  refine pm_i_lt (t := 14) pm_a114_1 rfl ⟨by omega, by omega⟩ (fun h_1 => ?_) (fun h_1 => ?_)
  · skip
    show pm_E _ _ _ 14 [(0, .ref (pl 206)), (1, .int (iI p)), (2, .int (iI v))] [] _ _ _ _
    refine pm_e_ret pm_a114_14 rfl rfl rfl rfl rfl rfl rfl rfl ?_
    exfalso
    omega
  · skip
    show pm_E _ _ _ 4 [(0, .ref (pl 206)), (1, .int (iI p)), (2, .int (iI v))] [] _ _ _ _
    refine pm_e_sim pm_a114_4 rfl ?_
    show pm_E _ _ _ 5 [(0, .ref (pl 206)), (1, .int (iI p)), (2, .int (iI v))] [.int (iI p)] _ _ _ _
    refine pm_e_sim pm_a114_5 rfl ?_
    show pm_E _ _ _ 6 [(0, .ref (pl 206)), (1, .int (iI p)), (2, .int (iI v))] [.ref (pl 206), .int (iI p)] _ _ _ _
    refine pm_i_aln pm_a114_6 (cg_206 hW h203) ?_
    show pm_E _ _ _ 7 [(0, .ref (pl 206)), (1, .int (iI p)), (2, .int (iI v))] [.int (iI 2800), .int (iI p)] _ _ _ _
    refine pm_c_ge (t := 14) pm_a114_7 rfl ⟨by omega, by omega⟩ ⟨by omega, by omega⟩ (fun h_2 => ?_) (fun h_2 => ?_)
    · skip
      show pm_E _ _ _ 14 [(0, .ref (pl 206)), (1, .int (iI p)), (2, .int (iI v))] [] _ _ _ _
      refine pm_e_ret pm_a114_14 rfl rfl rfl rfl rfl rfl rfl rfl ?_
      exfalso
      omega
    · skip
      show pm_E _ _ _ 10 [(0, .ref (pl 206)), (1, .int (iI p)), (2, .int (iI v))] [] _ _ _ _
      refine pm_e_sim pm_a114_10 rfl ?_
      show pm_E _ _ _ 11 [(0, .ref (pl 206)), (1, .int (iI p)), (2, .int (iI v))] [.ref (pl 206)] _ _ _ _
      refine pm_e_sim pm_a114_11 rfl ?_
      show pm_E _ _ _ 12 [(0, .ref (pl 206)), (1, .int (iI p)), (2, .int (iI v))] [.int (iI p), .ref (pl 206)] _ _ _ _
      refine pm_e_sim pm_a114_12 rfl ?_
      show pm_E _ _ _ 13 [(0, .ref (pl 206)), (1, .int (iI p)), (2, .int (iI v))] [.int (iI v), .int (iI p), .ref (pl 206)] _ _ _ _
      refine pm_i_ast pm_a114_13 (cg_206 hW h203) (by omega) (by omega) ⟨by omega, by omega⟩ (ca_206 hW h203 _) ?_
      show pm_E _ _ _ 14 [(0, .ref (pl 206)), (1, .int (iI p)), (2, .int (iI v))] [] _ _ _ _
      refine pm_e_ret pm_a114_14 rfl rfl rfl rfl rfl rfl rfl rfl ?_
      exact k
set_option maxHeartbeats 4000000 in
set_option maxRecDepth 100000 in
theorem C_zat_207 {d n : Nat} {kd pl : Nat → Nat} {s : Nat → Int} {a : Nat → Int → Int} {c : Nat → cdt} {M : List va_E} {Q : Option Value → List va_E → Nat → Nat → Prop} {p : Int} (hW : wf n kd pl) (h203 : al n kd pl 203) (hp0 : 0 ≤ p) (hp1 : p < 2800) (k : Q (some (.int (iI (a 12 p)))) (ch n kd pl s a c M) 0 0) : pm_E none d pm_mm123 0 [(0, .ref (pl 207)), (1, .int (iI p))] [] (ch n kd pl s a c M) 0 0 Q := by
  refine pm_e_sim pm_a123_0 rfl ?_
  show pm_E _ _ _ 1 [(0, .ref (pl 207)), (1, .int (iI p))] [.int (iI p)] _ _ _ _
  refine pm_i_lt (t := 16) pm_a123_1 rfl ⟨by omega, by omega⟩ (fun h_1 => ?_) (fun h_1 => ?_)
  · skip
    show pm_E _ _ _ 16 [(0, .ref (pl 207)), (1, .int (iI p))] [] _ _ _ _
    refine pm_e_sim pm_a123_16 rfl ?_
    refine pm_e_top (y := iI 0) (by decide +kernel) ?_
    show pm_E _ _ _ 17 [(0, .ref (pl 207)), (1, .int (iI p))] [.int (iI 0)] _ _ _ _
    refine pm_e_ret pm_a123_17 rfl rfl rfl rfl rfl rfl rfl rfl ?_
    exfalso
    omega
  · skip
    show pm_E _ _ _ 4 [(0, .ref (pl 207)), (1, .int (iI p))] [] _ _ _ _
    refine pm_e_sim pm_a123_4 rfl ?_
    show pm_E _ _ _ 5 [(0, .ref (pl 207)), (1, .int (iI p))] [.int (iI p)] _ _ _ _
    refine pm_e_sim pm_a123_5 rfl ?_
    show pm_E _ _ _ 6 [(0, .ref (pl 207)), (1, .int (iI p))] [.ref (pl 207), .int (iI p)] _ _ _ _
    refine pm_i_aln pm_a123_6 (cg_207 hW h203) ?_
    show pm_E _ _ _ 7 [(0, .ref (pl 207)), (1, .int (iI p))] [.int (iI 2800), .int (iI p)] _ _ _ _
    refine pm_c_ge (t := 16) pm_a123_7 rfl ⟨by omega, by omega⟩ ⟨by omega, by omega⟩ (fun h_2 => ?_) (fun h_2 => ?_)
    · skip
      show pm_E _ _ _ 16 [(0, .ref (pl 207)), (1, .int (iI p))] [] _ _ _ _
      refine pm_e_sim pm_a123_16 rfl ?_
      refine pm_e_top (y := iI 0) (by decide +kernel) ?_
      show pm_E _ _ _ 17 [(0, .ref (pl 207)), (1, .int (iI p))] [.int (iI 0)] _ _ _ _
      refine pm_e_ret pm_a123_17 rfl rfl rfl rfl rfl rfl rfl rfl ?_
      exfalso
      omega
    · skip
      show pm_E _ _ _ 10 [(0, .ref (pl 207)), (1, .int (iI p))] [] _ _ _ _
      refine pm_e_sim pm_a123_10 rfl ?_
      show pm_E _ _ _ 11 [(0, .ref (pl 207)), (1, .int (iI p))] [.ref (pl 207)] _ _ _ _
      refine pm_e_sim pm_a123_11 rfl ?_
      show pm_E _ _ _ 12 [(0, .ref (pl 207)), (1, .int (iI p))] [.int (iI p), .ref (pl 207)] _ _ _ _
      refine pm_i_ald pm_a123_12 (cg_207 hW h203) (by omega) (by omega) ⟨by omega, by omega⟩ ?_
      show pm_E _ _ _ 13 [(0, .ref (pl 207)), (1, .int (iI p))] [.int (iI ((a 12) (p)))] _ _ _ _
      refine pm_e_goto pm_a123_13 rfl ?_
      show pm_E _ _ _ 17 [(0, .ref (pl 207)), (1, .int (iI p))] [.int (iI ((a 12) (p)))] _ _ _ _
      refine pm_e_ret pm_a123_17 rfl rfl rfl rfl rfl rfl rfl rfl ?_
      exact k
set_option maxHeartbeats 4000000 in
set_option maxRecDepth 100000 in
theorem C_zset_207 {d n : Nat} {kd pl : Nat → Nat} {s : Nat → Int} {a : Nat → Int → Int} {c : Nat → cdt} {M : List va_E} {Q : Option Value → List va_E → Nat → Nat → Prop} {p v : Int} (hW : wf n kd pl) (h203 : al n kd pl 203) (hp0 : 0 ≤ p) (hp1 : p < 2800) (k : Q none (ch n kd pl s (updA a 12 (updI (a 12) p v)) c M) 0 0) : pm_E none d pm_mm114 0 [(0, .ref (pl 207)), (1, .int (iI p)), (2, .int (iI v))] [] (ch n kd pl s a c M) 0 0 Q := by
  refine pm_e_sim pm_a114_0 rfl ?_
  show pm_E _ _ _ 1 [(0, .ref (pl 207)), (1, .int (iI p)), (2, .int (iI v))] [.int (iI p)] _ _ _ _
  refine pm_i_lt (t := 14) pm_a114_1 rfl ⟨by omega, by omega⟩ (fun h_1 => ?_) (fun h_1 => ?_)
  · skip
    show pm_E _ _ _ 14 [(0, .ref (pl 207)), (1, .int (iI p)), (2, .int (iI v))] [] _ _ _ _
    refine pm_e_ret pm_a114_14 rfl rfl rfl rfl rfl rfl rfl rfl ?_
    exfalso
    omega
  · skip
    show pm_E _ _ _ 4 [(0, .ref (pl 207)), (1, .int (iI p)), (2, .int (iI v))] [] _ _ _ _
    refine pm_e_sim pm_a114_4 rfl ?_
    show pm_E _ _ _ 5 [(0, .ref (pl 207)), (1, .int (iI p)), (2, .int (iI v))] [.int (iI p)] _ _ _ _
    refine pm_e_sim pm_a114_5 rfl ?_
    show pm_E _ _ _ 6 [(0, .ref (pl 207)), (1, .int (iI p)), (2, .int (iI v))] [.ref (pl 207), .int (iI p)] _ _ _ _
    refine pm_i_aln pm_a114_6 (cg_207 hW h203) ?_
    show pm_E _ _ _ 7 [(0, .ref (pl 207)), (1, .int (iI p)), (2, .int (iI v))] [.int (iI 2800), .int (iI p)] _ _ _ _
    refine pm_c_ge (t := 14) pm_a114_7 rfl ⟨by omega, by omega⟩ ⟨by omega, by omega⟩ (fun h_2 => ?_) (fun h_2 => ?_)
    · skip
      show pm_E _ _ _ 14 [(0, .ref (pl 207)), (1, .int (iI p)), (2, .int (iI v))] [] _ _ _ _
      refine pm_e_ret pm_a114_14 rfl rfl rfl rfl rfl rfl rfl rfl ?_
      exfalso
      omega
    · skip
      show pm_E _ _ _ 10 [(0, .ref (pl 207)), (1, .int (iI p)), (2, .int (iI v))] [] _ _ _ _
      refine pm_e_sim pm_a114_10 rfl ?_
      show pm_E _ _ _ 11 [(0, .ref (pl 207)), (1, .int (iI p)), (2, .int (iI v))] [.ref (pl 207)] _ _ _ _
      refine pm_e_sim pm_a114_11 rfl ?_
      show pm_E _ _ _ 12 [(0, .ref (pl 207)), (1, .int (iI p)), (2, .int (iI v))] [.int (iI p), .ref (pl 207)] _ _ _ _
      refine pm_e_sim pm_a114_12 rfl ?_
      show pm_E _ _ _ 13 [(0, .ref (pl 207)), (1, .int (iI p)), (2, .int (iI v))] [.int (iI v), .int (iI p), .ref (pl 207)] _ _ _ _
      refine pm_i_ast pm_a114_13 (cg_207 hW h203) (by omega) (by omega) ⟨by omega, by omega⟩ (ca_207 hW h203 _) ?_
      show pm_E _ _ _ 14 [(0, .ref (pl 207)), (1, .int (iI p)), (2, .int (iI v))] [] _ _ _ _
      refine pm_e_ret pm_a114_14 rfl rfl rfl rfl rfl rfl rfl rfl ?_
      exact k
set_option maxHeartbeats 4000000 in
set_option maxRecDepth 100000 in
theorem C_zat_208 {d n : Nat} {kd pl : Nat → Nat} {s : Nat → Int} {a : Nat → Int → Int} {c : Nat → cdt} {M : List va_E} {Q : Option Value → List va_E → Nat → Nat → Prop} {p : Int} (hW : wf n kd pl) (h203 : al n kd pl 203) (hp0 : 0 ≤ p) (hp1 : p < 2800) (k : Q (some (.int (iI (a 13 p)))) (ch n kd pl s a c M) 0 0) : pm_E none d pm_mm123 0 [(0, .ref (pl 208)), (1, .int (iI p))] [] (ch n kd pl s a c M) 0 0 Q := by
  refine pm_e_sim pm_a123_0 rfl ?_
  show pm_E _ _ _ 1 [(0, .ref (pl 208)), (1, .int (iI p))] [.int (iI p)] _ _ _ _
  refine pm_i_lt (t := 16) pm_a123_1 rfl ⟨by omega, by omega⟩ (fun h_1 => ?_) (fun h_1 => ?_)
  · skip
    show pm_E _ _ _ 16 [(0, .ref (pl 208)), (1, .int (iI p))] [] _ _ _ _
    refine pm_e_sim pm_a123_16 rfl ?_
    refine pm_e_top (y := iI 0) (by decide +kernel) ?_
    show pm_E _ _ _ 17 [(0, .ref (pl 208)), (1, .int (iI p))] [.int (iI 0)] _ _ _ _
    refine pm_e_ret pm_a123_17 rfl rfl rfl rfl rfl rfl rfl rfl ?_
    exfalso
    omega
  · skip
    show pm_E _ _ _ 4 [(0, .ref (pl 208)), (1, .int (iI p))] [] _ _ _ _
    refine pm_e_sim pm_a123_4 rfl ?_
    show pm_E _ _ _ 5 [(0, .ref (pl 208)), (1, .int (iI p))] [.int (iI p)] _ _ _ _
    refine pm_e_sim pm_a123_5 rfl ?_
    show pm_E _ _ _ 6 [(0, .ref (pl 208)), (1, .int (iI p))] [.ref (pl 208), .int (iI p)] _ _ _ _
    refine pm_i_aln pm_a123_6 (cg_208 hW h203) ?_
    show pm_E _ _ _ 7 [(0, .ref (pl 208)), (1, .int (iI p))] [.int (iI 2800), .int (iI p)] _ _ _ _
    refine pm_c_ge (t := 16) pm_a123_7 rfl ⟨by omega, by omega⟩ ⟨by omega, by omega⟩ (fun h_2 => ?_) (fun h_2 => ?_)
    · skip
      show pm_E _ _ _ 16 [(0, .ref (pl 208)), (1, .int (iI p))] [] _ _ _ _
      refine pm_e_sim pm_a123_16 rfl ?_
      refine pm_e_top (y := iI 0) (by decide +kernel) ?_
      show pm_E _ _ _ 17 [(0, .ref (pl 208)), (1, .int (iI p))] [.int (iI 0)] _ _ _ _
      refine pm_e_ret pm_a123_17 rfl rfl rfl rfl rfl rfl rfl rfl ?_
      exfalso
      omega
    · skip
      show pm_E _ _ _ 10 [(0, .ref (pl 208)), (1, .int (iI p))] [] _ _ _ _
      refine pm_e_sim pm_a123_10 rfl ?_
      show pm_E _ _ _ 11 [(0, .ref (pl 208)), (1, .int (iI p))] [.ref (pl 208)] _ _ _ _
      refine pm_e_sim pm_a123_11 rfl ?_
      show pm_E _ _ _ 12 [(0, .ref (pl 208)), (1, .int (iI p))] [.int (iI p), .ref (pl 208)] _ _ _ _
      refine pm_i_ald pm_a123_12 (cg_208 hW h203) (by omega) (by omega) ⟨by omega, by omega⟩ ?_
      show pm_E _ _ _ 13 [(0, .ref (pl 208)), (1, .int (iI p))] [.int (iI ((a 13) (p)))] _ _ _ _
      refine pm_e_goto pm_a123_13 rfl ?_
      show pm_E _ _ _ 17 [(0, .ref (pl 208)), (1, .int (iI p))] [.int (iI ((a 13) (p)))] _ _ _ _
      refine pm_e_ret pm_a123_17 rfl rfl rfl rfl rfl rfl rfl rfl ?_
      exact k
set_option maxHeartbeats 4000000 in
set_option maxRecDepth 100000 in
theorem C_zset_208 {d n : Nat} {kd pl : Nat → Nat} {s : Nat → Int} {a : Nat → Int → Int} {c : Nat → cdt} {M : List va_E} {Q : Option Value → List va_E → Nat → Nat → Prop} {p v : Int} (hW : wf n kd pl) (h203 : al n kd pl 203) (hp0 : 0 ≤ p) (hp1 : p < 2800) (k : Q none (ch n kd pl s (updA a 13 (updI (a 13) p v)) c M) 0 0) : pm_E none d pm_mm114 0 [(0, .ref (pl 208)), (1, .int (iI p)), (2, .int (iI v))] [] (ch n kd pl s a c M) 0 0 Q := by
  refine pm_e_sim pm_a114_0 rfl ?_
  show pm_E _ _ _ 1 [(0, .ref (pl 208)), (1, .int (iI p)), (2, .int (iI v))] [.int (iI p)] _ _ _ _
  refine pm_i_lt (t := 14) pm_a114_1 rfl ⟨by omega, by omega⟩ (fun h_1 => ?_) (fun h_1 => ?_)
  · skip
    show pm_E _ _ _ 14 [(0, .ref (pl 208)), (1, .int (iI p)), (2, .int (iI v))] [] _ _ _ _
    refine pm_e_ret pm_a114_14 rfl rfl rfl rfl rfl rfl rfl rfl ?_
    exfalso
    omega
  · skip
    show pm_E _ _ _ 4 [(0, .ref (pl 208)), (1, .int (iI p)), (2, .int (iI v))] [] _ _ _ _
    refine pm_e_sim pm_a114_4 rfl ?_
    show pm_E _ _ _ 5 [(0, .ref (pl 208)), (1, .int (iI p)), (2, .int (iI v))] [.int (iI p)] _ _ _ _
    refine pm_e_sim pm_a114_5 rfl ?_
    show pm_E _ _ _ 6 [(0, .ref (pl 208)), (1, .int (iI p)), (2, .int (iI v))] [.ref (pl 208), .int (iI p)] _ _ _ _
    refine pm_i_aln pm_a114_6 (cg_208 hW h203) ?_
    show pm_E _ _ _ 7 [(0, .ref (pl 208)), (1, .int (iI p)), (2, .int (iI v))] [.int (iI 2800), .int (iI p)] _ _ _ _
    refine pm_c_ge (t := 14) pm_a114_7 rfl ⟨by omega, by omega⟩ ⟨by omega, by omega⟩ (fun h_2 => ?_) (fun h_2 => ?_)
    · skip
      show pm_E _ _ _ 14 [(0, .ref (pl 208)), (1, .int (iI p)), (2, .int (iI v))] [] _ _ _ _
      refine pm_e_ret pm_a114_14 rfl rfl rfl rfl rfl rfl rfl rfl ?_
      exfalso
      omega
    · skip
      show pm_E _ _ _ 10 [(0, .ref (pl 208)), (1, .int (iI p)), (2, .int (iI v))] [] _ _ _ _
      refine pm_e_sim pm_a114_10 rfl ?_
      show pm_E _ _ _ 11 [(0, .ref (pl 208)), (1, .int (iI p)), (2, .int (iI v))] [.ref (pl 208)] _ _ _ _
      refine pm_e_sim pm_a114_11 rfl ?_
      show pm_E _ _ _ 12 [(0, .ref (pl 208)), (1, .int (iI p)), (2, .int (iI v))] [.int (iI p), .ref (pl 208)] _ _ _ _
      refine pm_e_sim pm_a114_12 rfl ?_
      show pm_E _ _ _ 13 [(0, .ref (pl 208)), (1, .int (iI p)), (2, .int (iI v))] [.int (iI v), .int (iI p), .ref (pl 208)] _ _ _ _
      refine pm_i_ast pm_a114_13 (cg_208 hW h203) (by omega) (by omega) ⟨by omega, by omega⟩ (ca_208 hW h203 _) ?_
      show pm_E _ _ _ 14 [(0, .ref (pl 208)), (1, .int (iI p)), (2, .int (iI v))] [] _ _ _ _
      refine pm_e_ret pm_a114_14 rfl rfl rfl rfl rfl rfl rfl rfl ?_
      exact k
set_option maxHeartbeats 4000000 in
set_option maxRecDepth 100000 in
theorem C_zat_209 {d n : Nat} {kd pl : Nat → Nat} {s : Nat → Int} {a : Nat → Int → Int} {c : Nat → cdt} {M : List va_E} {Q : Option Value → List va_E → Nat → Nat → Prop} {p : Int} (hW : wf n kd pl) (h203 : al n kd pl 203) (hp0 : 0 ≤ p) (hp1 : p < 500) (k : Q (some (.int (iI (a 14 p)))) (ch n kd pl s a c M) 0 0) : pm_E none d pm_mm123 0 [(0, .ref (pl 209)), (1, .int (iI p))] [] (ch n kd pl s a c M) 0 0 Q := by
  refine pm_e_sim pm_a123_0 rfl ?_
  show pm_E _ _ _ 1 [(0, .ref (pl 209)), (1, .int (iI p))] [.int (iI p)] _ _ _ _
  refine pm_i_lt (t := 16) pm_a123_1 rfl ⟨by omega, by omega⟩ (fun h_1 => ?_) (fun h_1 => ?_)
  · skip
    show pm_E _ _ _ 16 [(0, .ref (pl 209)), (1, .int (iI p))] [] _ _ _ _
    refine pm_e_sim pm_a123_16 rfl ?_
    refine pm_e_top (y := iI 0) (by decide +kernel) ?_
    show pm_E _ _ _ 17 [(0, .ref (pl 209)), (1, .int (iI p))] [.int (iI 0)] _ _ _ _
    refine pm_e_ret pm_a123_17 rfl rfl rfl rfl rfl rfl rfl rfl ?_
    exfalso
    omega
  · skip
    show pm_E _ _ _ 4 [(0, .ref (pl 209)), (1, .int (iI p))] [] _ _ _ _
    refine pm_e_sim pm_a123_4 rfl ?_
    show pm_E _ _ _ 5 [(0, .ref (pl 209)), (1, .int (iI p))] [.int (iI p)] _ _ _ _
    refine pm_e_sim pm_a123_5 rfl ?_
    show pm_E _ _ _ 6 [(0, .ref (pl 209)), (1, .int (iI p))] [.ref (pl 209), .int (iI p)] _ _ _ _
    refine pm_i_aln pm_a123_6 (cg_209 hW h203) ?_
    show pm_E _ _ _ 7 [(0, .ref (pl 209)), (1, .int (iI p))] [.int (iI 500), .int (iI p)] _ _ _ _
    refine pm_c_ge (t := 16) pm_a123_7 rfl ⟨by omega, by omega⟩ ⟨by omega, by omega⟩ (fun h_2 => ?_) (fun h_2 => ?_)
    · skip
      show pm_E _ _ _ 16 [(0, .ref (pl 209)), (1, .int (iI p))] [] _ _ _ _
      refine pm_e_sim pm_a123_16 rfl ?_
      refine pm_e_top (y := iI 0) (by decide +kernel) ?_
      show pm_E _ _ _ 17 [(0, .ref (pl 209)), (1, .int (iI p))] [.int (iI 0)] _ _ _ _
      refine pm_e_ret pm_a123_17 rfl rfl rfl rfl rfl rfl rfl rfl ?_
      exfalso
      omega
    · skip
      show pm_E _ _ _ 10 [(0, .ref (pl 209)), (1, .int (iI p))] [] _ _ _ _
      refine pm_e_sim pm_a123_10 rfl ?_
      show pm_E _ _ _ 11 [(0, .ref (pl 209)), (1, .int (iI p))] [.ref (pl 209)] _ _ _ _
      refine pm_e_sim pm_a123_11 rfl ?_
      show pm_E _ _ _ 12 [(0, .ref (pl 209)), (1, .int (iI p))] [.int (iI p), .ref (pl 209)] _ _ _ _
      refine pm_i_ald pm_a123_12 (cg_209 hW h203) (by omega) (by omega) ⟨by omega, by omega⟩ ?_
      show pm_E _ _ _ 13 [(0, .ref (pl 209)), (1, .int (iI p))] [.int (iI ((a 14) (p)))] _ _ _ _
      refine pm_e_goto pm_a123_13 rfl ?_
      show pm_E _ _ _ 17 [(0, .ref (pl 209)), (1, .int (iI p))] [.int (iI ((a 14) (p)))] _ _ _ _
      refine pm_e_ret pm_a123_17 rfl rfl rfl rfl rfl rfl rfl rfl ?_
      exact k
set_option maxHeartbeats 4000000 in
set_option maxRecDepth 100000 in
theorem C_zset_209 {d n : Nat} {kd pl : Nat → Nat} {s : Nat → Int} {a : Nat → Int → Int} {c : Nat → cdt} {M : List va_E} {Q : Option Value → List va_E → Nat → Nat → Prop} {p v : Int} (hW : wf n kd pl) (h203 : al n kd pl 203) (hp0 : 0 ≤ p) (hp1 : p < 500) (k : Q none (ch n kd pl s (updA a 14 (updI (a 14) p v)) c M) 0 0) : pm_E none d pm_mm114 0 [(0, .ref (pl 209)), (1, .int (iI p)), (2, .int (iI v))] [] (ch n kd pl s a c M) 0 0 Q := by
  refine pm_e_sim pm_a114_0 rfl ?_
  show pm_E _ _ _ 1 [(0, .ref (pl 209)), (1, .int (iI p)), (2, .int (iI v))] [.int (iI p)] _ _ _ _
  refine pm_i_lt (t := 14) pm_a114_1 rfl ⟨by omega, by omega⟩ (fun h_1 => ?_) (fun h_1 => ?_)
  · skip
    show pm_E _ _ _ 14 [(0, .ref (pl 209)), (1, .int (iI p)), (2, .int (iI v))] [] _ _ _ _
    refine pm_e_ret pm_a114_14 rfl rfl rfl rfl rfl rfl rfl rfl ?_
    exfalso
    omega
  · skip
    show pm_E _ _ _ 4 [(0, .ref (pl 209)), (1, .int (iI p)), (2, .int (iI v))] [] _ _ _ _
    refine pm_e_sim pm_a114_4 rfl ?_
    show pm_E _ _ _ 5 [(0, .ref (pl 209)), (1, .int (iI p)), (2, .int (iI v))] [.int (iI p)] _ _ _ _
    refine pm_e_sim pm_a114_5 rfl ?_
    show pm_E _ _ _ 6 [(0, .ref (pl 209)), (1, .int (iI p)), (2, .int (iI v))] [.ref (pl 209), .int (iI p)] _ _ _ _
    refine pm_i_aln pm_a114_6 (cg_209 hW h203) ?_
    show pm_E _ _ _ 7 [(0, .ref (pl 209)), (1, .int (iI p)), (2, .int (iI v))] [.int (iI 500), .int (iI p)] _ _ _ _
    refine pm_c_ge (t := 14) pm_a114_7 rfl ⟨by omega, by omega⟩ ⟨by omega, by omega⟩ (fun h_2 => ?_) (fun h_2 => ?_)
    · skip
      show pm_E _ _ _ 14 [(0, .ref (pl 209)), (1, .int (iI p)), (2, .int (iI v))] [] _ _ _ _
      refine pm_e_ret pm_a114_14 rfl rfl rfl rfl rfl rfl rfl rfl ?_
      exfalso
      omega
    · skip
      show pm_E _ _ _ 10 [(0, .ref (pl 209)), (1, .int (iI p)), (2, .int (iI v))] [] _ _ _ _
      refine pm_e_sim pm_a114_10 rfl ?_
      show pm_E _ _ _ 11 [(0, .ref (pl 209)), (1, .int (iI p)), (2, .int (iI v))] [.ref (pl 209)] _ _ _ _
      refine pm_e_sim pm_a114_11 rfl ?_
      show pm_E _ _ _ 12 [(0, .ref (pl 209)), (1, .int (iI p)), (2, .int (iI v))] [.int (iI p), .ref (pl 209)] _ _ _ _
      refine pm_e_sim pm_a114_12 rfl ?_
      show pm_E _ _ _ 13 [(0, .ref (pl 209)), (1, .int (iI p)), (2, .int (iI v))] [.int (iI v), .int (iI p), .ref (pl 209)] _ _ _ _
      refine pm_i_ast pm_a114_13 (cg_209 hW h203) (by omega) (by omega) ⟨by omega, by omega⟩ (ca_209 hW h203 _) ?_
      show pm_E _ _ _ 14 [(0, .ref (pl 209)), (1, .int (iI p)), (2, .int (iI v))] [] _ _ _ _
      refine pm_e_ret pm_a114_14 rfl rfl rfl rfl rfl rfl rfl rfl ?_
      exact k
set_option maxHeartbeats 4000000 in
set_option maxRecDepth 100000 in
theorem C_zisArrow {d n : Nat} {kd pl : Nat → Nat} {s : Nat → Int} {a : Nat → Int → Int} {c : Nat → cdt} {M : List va_E} {Q : Option Value → List va_E → Nat → Nat → Prop} {x : Int} (hW : wf n kd pl) (h203 : al n kd pl 203) (h0 : 0 ≤ x) (h1 : x < 2800) (h2 : in32 (a 9 x)) (k1 : a 9 x ≠ -1 → Q (some (.int (iI 1))) (ch n kd pl s a c M) 0 0) (k0 : a 9 x = -1 → Q (some (.int (iI 0))) (ch n kd pl s a c M) 0 0) : pm_E none (d + 1) pm_mm124 0 [(0, .ref (pl 203)), (1, .int (iI x))] [] (ch n kd pl s a c M) 0 0 Q := by
  obtain ⟨_, _⟩ := id h2
  refine pm_e_sim pm_a124_0 rfl ?_
  show pm_E _ _ _ 1 [(0, .ref (pl 203)), (1, .int (iI x))] [.ref (pl 203)] _ _ _ _
  refine pm_i_get pm_a124_1 rfl (cg_203 hW h203) rfl ?_
  show pm_E _ _ _ 4 [(0, .ref (pl 203)), (1, .int (iI x))] [.ref (pl 204)] _ _ _ _
  refine pm_e_sim pm_a124_4 rfl ?_
  show pm_E _ _ _ 5 [(0, .ref (pl 203)), (1, .int (iI x))] [.int (iI x), .ref (pl 204)] _ _ _ _
  refine pm_e_call (T2 := pm_mm123) pm_a124_5 rfl rfl rfl rfl rfl rfl rfl rfl rfl ?_
  show pm_E none _ _ 0 [(0, .ref (pl 204)), (1, .int (iI x))] [] _ _ _ _
  refine C_zat_204 hW h203 (by omega) (by omega) ?_
  show pm_E _ _ _ 8 [(0, .ref (pl 203)), (1, .int (iI x))] [.int (iI (a 9 x))] _ _ _ _
  refine pm_e_sim pm_a124_8 rfl ?_
  refine pm_e_top (y := iI (-1)) (by decide +kernel) ?_
  show pm_E _ _ _ 9 [(0, .ref (pl 203)), (1, .int (iI x))] [.int (iI (-1)), .int (iI (a 9 x))] _ _ _ _
  refine pm_c_eq (t := 16) pm_a124_9 rfl ⟨by omega, by omega⟩ ⟨by omega, by omega⟩ (fun h_1 => ?_) (fun h_1 => ?_)
  · skip
    show pm_E _ _ _ 16 [(0, .ref (pl 203)), (1, .int (iI x))] [] _ _ _ _
    refine pm_e_sim pm_a124_16 rfl ?_
    refine pm_e_top (y := iI 0) (by decide +kernel) ?_
    show pm_E _ _ _ 17 [(0, .ref (pl 203)), (1, .int (iI x))] [.int (iI 0)] _ _ _ _
    refine pm_e_ret pm_a124_17 rfl rfl rfl rfl rfl rfl rfl rfl ?_
    exact k0 (by omega)
  · skip
    show pm_E _ _ _ 12 [(0, .ref (pl 203)), (1, .int (iI x))] [] _ _ _ _
    refine pm_e_sim pm_a124_12 rfl ?_
    refine pm_e_top (y := iI 1) (by decide +kernel) ?_
    show pm_E _ _ _ 13 [(0, .ref (pl 203)), (1, .int (iI x))] [.int (iI 1)] _ _ _ _
    refine pm_e_goto pm_a124_13 rfl ?_
    show pm_E _ _ _ 17 [(0, .ref (pl 203)), (1, .int (iI x))] [.int (iI 1)] _ _ _ _
    refine pm_e_ret pm_a124_17 rfl rfl rfl rfl rfl rfl rfl rfl ?_
    exact k1 (by omega)
set_option maxHeartbeats 4000000 in
set_option maxRecDepth 100000 in
theorem C_zarrow {d n : Nat} {kd pl : Nat → Nat} {s : Nat → Int} {a : Nat → Int → Int} {c : Nat → cdt} {M : List va_E} {Q : Option Value → List va_E → Nat → Nat → Prop} {x y : Int} (hW : wf n kd pl) (h203 : al n kd pl 203) (h0 : 0 ≤ s 20) (h1 : s 20 < 2800) (k : Q (some (.int (iI (s 20)))) (ch n kd pl (updS s 20 (s 20 + 1)) (updA (updA (updA a 9 (updI (a 9) (s 20) x)) 10 (updI (a 10) (s 20) y)) 11 (updI (a 11) (s 20) (s 20))) c M) 0 0) : pm_E none (d + 1) pm_mm113 0 [(0, .ref (pl 203)), (1, .int (iI x)), (2, .int (iI y))] [] (ch n kd pl s a c M) 0 0 Q := by
  refine pm_e_sim pm_a113_0 rfl ?_
  show pm_E _ _ _ 1 [(0, .ref (pl 203)), (1, .int (iI x)), (2, .int (iI y))] [.ref (pl 203)] _ _ _ _
  refine pm_i_get pm_a113_1 rfl (cg_203 hW h203) rfl ?_
  show pm_E _ _ _ 4 [(0, .ref (pl 203)), (1, .int (iI x)), (2, .int (iI y))] [.int (iI (s 20))] _ _ _ _
  refine pm_e_sim pm_a113_4 rfl ?_
  refine pm_e_top (y := iI 2799) (by decide +kernel) ?_
  show pm_E _ _ _ 7 [(0, .ref (pl 203)), (1, .int (iI x)), (2, .int (iI y))] [.int (iI 2799), .int (iI (s 20))] _ _ _ _
  refine pm_i_min pm_a113_7 rfl (Nat.le_of_ble_eq_true rfl) ⟨by omega, by omega⟩ ⟨by omega, by omega⟩ ?_
  refine pm_e_top (y := iI (s 20)) (congrArg iI (show min (s 20) 2799 = s 20 by omega)) ?_
  show pm_E _ _ _ 10 [(0, .ref (pl 203)), (1, .int (iI x)), (2, .int (iI y))] [.int (iI (s 20))] _ _ _ _
  refine pm_e_sim pm_a113_10 rfl ?_
  show pm_E _ _ _ 11 [(0, .ref (pl 203)), (1, .int (iI x)), (2, .int (iI y)), (3, .int (iI (s 20)))] [] _ _ _ _
  refine pm_e_sim pm_a113_11 rfl ?_
  show pm_E _ _ _ 12 [(0, .ref (pl 203)), (1, .int (iI x)), (2, .int (iI y)), (3, .int (iI (s 20)))] [.ref (pl 203)] _ _ _ _
  refine pm_i_get pm_a113_12 rfl (cg_203 hW h203) rfl ?_
  show pm_E _ _ _ 15 [(0, .ref (pl 203)), (1, .int (iI x)), (2, .int (iI y)), (3, .int (iI (s 20)))] [.ref (pl 204)] _ _ _ _
  refine pm_e_sim pm_a113_15 rfl ?_
  show pm_E _ _ _ 16 [(0, .ref (pl 203)), (1, .int (iI x)), (2, .int (iI y)), (3, .int (iI (s 20)))] [.int (iI (s 20)), .ref (pl 204)] _ _ _ _
  refine pm_e_sim pm_a113_16 rfl ?_
  show pm_E _ _ _ 17 [(0, .ref (pl 203)), (1, .int (iI x)), (2, .int (iI y)), (3, .int (iI (s 20)))] [.int (iI x), .int (iI (s 20)), .ref (pl 204)] _ _ _ _
  refine pm_e_call (T2 := pm_mm114) pm_a113_17 rfl rfl rfl rfl rfl rfl rfl rfl rfl ?_
  show pm_E none _ _ 0 [(0, .ref (pl 204)), (1, .int (iI (s 20))), (2, .int (iI x))] [] _ _ _ _
  refine C_zset_204 hW h203 (by omega) (by omega) ?_
  show pm_E _ _ _ 20 [(0, .ref (pl 203)), (1, .int (iI x)), (2, .int (iI y)), (3, .int (iI (s 20)))] [] _ _ _ _
  refine pm_e_sim pm_a113_20 rfl ?_
  show pm_E _ _ _ 21 [(0, .ref (pl 203)), (1, .int (iI x)), (2, .int (iI y)), (3, .int (iI (s 20)))] [.ref (pl 203)] _ _ _ _
  refine pm_i_get pm_a113_21 rfl (cg_203 hW h203) rfl ?_
  show pm_E _ _ _ 24 [(0, .ref (pl 203)), (1, .int (iI x)), (2, .int (iI y)), (3, .int (iI (s 20)))] [.ref (pl 205)] _ _ _ _
  refine pm_e_sim pm_a113_24 rfl ?_
  show pm_E _ _ _ 25 [(0, .ref (pl 203)), (1, .int (iI x)), (2, .int (iI y)), (3, .int (iI (s 20)))] [.int (iI (s 20)), .ref (pl 205)] _ _ _ _
  refine pm_e_sim pm_a113_25 rfl ?_
  show pm_E _ _ _ 26 [(0, .ref (pl 203)), (1, .int (iI x)), (2, .int (iI y)), (3, .int (iI (s 20)))] [.int (iI y), .int (iI (s 20)), .ref (pl 205)] _ _ _ _
  refine pm_e_call (T2 := pm_mm114) pm_a113_26 rfl rfl rfl rfl rfl rfl rfl rfl rfl ?_
  show pm_E none _ _ 0 [(0, .ref (pl 205)), (1, .int (iI (s 20))), (2, .int (iI y))] [] _ _ _ _
  refine C_zset_205 hW h203 (by omega) (by omega) ?_
  show pm_E _ _ _ 29 [(0, .ref (pl 203)), (1, .int (iI x)), (2, .int (iI y)), (3, .int (iI (s 20)))] [] _ _ _ _
  refine pm_e_sim pm_a113_29 rfl ?_
  show pm_E _ _ _ 30 [(0, .ref (pl 203)), (1, .int (iI x)), (2, .int (iI y)), (3, .int (iI (s 20)))] [.ref (pl 203)] _ _ _ _
  refine pm_i_get pm_a113_30 rfl (cg_203 hW h203) rfl ?_
  show pm_E _ _ _ 33 [(0, .ref (pl 203)), (1, .int (iI x)), (2, .int (iI y)), (3, .int (iI (s 20)))] [.ref (pl 206)] _ _ _ _
  refine pm_e_sim pm_a113_33 rfl ?_
  show pm_E _ _ _ 34 [(0, .ref (pl 203)), (1, .int (iI x)), (2, .int (iI y)), (3, .int (iI (s 20)))] [.int (iI (s 20)), .ref (pl 206)] _ _ _ _
  refine pm_e_sim pm_a113_34 rfl ?_
  show pm_E _ _ _ 35 [(0, .ref (pl 203)), (1, .int (iI x)), (2, .int (iI y)), (3, .int (iI (s 20)))] [.int (iI (s 20)), .int (iI (s 20)), .ref (pl 206)] _ _ _ _
  refine pm_e_call (T2 := pm_mm114) pm_a113_35 rfl rfl rfl rfl rfl rfl rfl rfl rfl ?_
  show pm_E none _ _ 0 [(0, .ref (pl 206)), (1, .int (iI (s 20))), (2, .int (iI (s 20)))] [] _ _ _ _
  refine C_zset_206 hW h203 (by omega) (by omega) ?_
  show pm_E _ _ _ 38 [(0, .ref (pl 203)), (1, .int (iI x)), (2, .int (iI y)), (3, .int (iI (s 20)))] [] _ _ _ _
  refine pm_e_sim pm_a113_38 rfl ?_
  show pm_E _ _ _ 39 [(0, .ref (pl 203)), (1, .int (iI x)), (2, .int (iI y)), (3, .int (iI (s 20)))] [.ref (pl 203)] _ _ _ _
  refine pm_e_sim pm_a113_39 rfl ?_
  show pm_E _ _ _ 40 [(0, .ref (pl 203)), (1, .int (iI x)), (2, .int (iI y)), (3, .int (iI (s 20)))] [.int (iI (s 20)), .ref (pl 203)] _ _ _ _
  refine pm_e_sim pm_a113_40 rfl ?_
  refine pm_e_top (y := iI 1) (by decide +kernel) ?_
  show pm_E _ _ _ 41 [(0, .ref (pl 203)), (1, .int (iI x)), (2, .int (iI y)), (3, .int (iI (s 20)))] [.int (iI 1), .int (iI (s 20)), .ref (pl 203)] _ _ _ _
  refine pm_e_sim pm_a113_41 rfl ?_
  refine pm_e_top (y := iI (s 20 + 1)) (iI_add _ _) ?_
  show pm_E _ _ _ 42 [(0, .ref (pl 203)), (1, .int (iI x)), (2, .int (iI y)), (3, .int (iI (s 20)))] [.int (iI (s 20 + 1)), .ref (pl 203)] _ _ _ _
  refine pm_i_put pm_a113_42 rfl (cg_203 hW h203) rfl (Nat.le_of_ble_eq_true rfl) (Or.inl rfl) (cw_20 hW h203 (s 20 + 1)) ?_
  show pm_E _ _ _ 45 [(0, .ref (pl 203)), (1, .int (iI x)), (2, .int (iI y)), (3, .int (iI (s 20)))] [] _ _ _ _
  refine pm_e_sim pm_a113_45 rfl ?_
  show pm_E _ _ _ 46 [(0, .ref (pl 203)), (1, .int (iI x)), (2, .int (iI y)), (3, .int (iI (s 20)))] [.int (iI (s 20))] _ _ _ _
  refine pm_e_ret pm_a113_46 rfl rfl rfl rfl rfl rfl rfl rfl ?_
  exact k
set_option maxHeartbeats 4000000 in
set_option maxRecDepth 100000 in
theorem C_zany {d n : Nat} {kd pl : Nat → Nat} {s : Nat → Int} {a : Nat → Int → Int} {c : Nat → cdt} {M : List va_E} {Q : Option Value → List va_E → Nat → Nat → Prop} (hW : wf n kd pl) (h203 : al n kd pl 203) (h0 : 0 ≤ s 20) (h1 : s 20 < 2800) (k : Q (some (.int (iI (s 20)))) (ch n kd pl (updS s 20 (s 20 + 1)) (updA (updA (updA a 9 (updI (a 9) (s 20) (-1))) 10 (updI (a 10) (s 20) (-1))) 11 (updI (a 11) (s 20) (s 20))) c M) 0 0) : pm_E none (d + 2) pm_mm112 0 [(0, .ref (pl 203))] [] (ch n kd pl s a c M) 0 0 Q := by
  refine pm_e_sim pm_a112_0 rfl ?_
  show pm_E _ _ _ 1 [(0, .ref (pl 203))] [.ref (pl 203)] _ _ _ _
  refine pm_e_sim pm_a112_1 rfl ?_
  refine pm_e_top (y := iI (-1)) (by decide +kernel) ?_
  show pm_E _ _ _ 2 [(0, .ref (pl 203))] [.int (iI (-1)), .ref (pl 203)] _ _ _ _
  refine pm_e_sim pm_a112_2 rfl ?_
  refine pm_e_top (y := iI (-1)) (by decide +kernel) ?_
  show pm_E _ _ _ 3 [(0, .ref (pl 203))] [.int (iI (-1)), .int (iI (-1)), .ref (pl 203)] _ _ _ _
  refine pm_i_callv (k := (pl 203)) (T2 := pm_mm113) pm_a112_3 rfl rfl rfl (cg_203 hW h203) ⟨Nat.le_of_ble_eq_true rfl, Nat.le_of_ble_eq_true rfl, rfl, by decide +kernel⟩ ?_
  show pm_E none _ _ 0 [(0, .ref (pl 203)), (1, .int (iI (-1))), (2, .int (iI (-1)))] [] _ _ _ _
  refine C_zarrow hW h203 h0 h1 ?_
  show pm_E _ _ _ 6 [(0, .ref (pl 203))] [.int (iI (s 20))] _ _ _ _
  refine pm_e_ret pm_a112_6 rfl rfl rfl rfl rfl rfl rfl rfl ?_
  exact k
set_option maxHeartbeats 4000000 in
set_option maxRecDepth 100000 in
theorem C_zawait {d n : Nat} {kd pl : Nat → Nat} {s : Nat → Int} {a : Nat → Int → Int} {c : Nat → cdt} {M : List va_E} {Q : Option Value → List va_E → Nat → Nat → Prop} {x : Int} (hW : wf n kd pl) (h203 : al n kd pl 203) (h0 : 0 ≤ s 21) (h1 : s 21 < 501) (k : Q none (ch n kd pl (updS s 21 (s 21 + 1)) (updA a 15 (updI (a 15) (s 21) x)) c M) 0 0) : pm_E none d pm_mm115 0 [(0, .ref (pl 203)), (1, .int (iI x))] [] (ch n kd pl s a c M) 0 0 Q := by
  refine pm_e_sim pm_a115_0 rfl ?_
  show pm_E _ _ _ 1 [(0, .ref (pl 203)), (1, .int (iI x))] [.ref (pl 203)] _ _ _ _
  refine pm_i_get pm_a115_1 rfl (cg_203 hW h203) rfl ?_
  show pm_E _ _ _ 4 [(0, .ref (pl 203)), (1, .int (iI x))] [.int (iI (s 21))] _ _ _ _
  refine pm_i_lt (t := 39) pm_a115_4 rfl ⟨by omega, by omega⟩ (fun h_1 => ?_) (fun h_1 => ?_)
  · skip
    show pm_E _ _ _ 39 [(0, .ref (pl 203)), (1, .int (iI x))] [] _ _ _ _
    refine pm_e_ret pm_a115_39 rfl rfl rfl rfl rfl rfl rfl rfl ?_
    exfalso
    omega
  · skip
    show pm_E _ _ _ 7 [(0, .ref (pl 203)), (1, .int (iI x))] [] _ _ _ _
    refine pm_e_sim pm_a115_7 rfl ?_
    show pm_E _ _ _ 8 [(0, .ref (pl 203)), (1, .int (iI x))] [.ref (pl 203)] _ _ _ _
    refine pm_i_get pm_a115_8 rfl (cg_203 hW h203) rfl ?_
    show pm_E _ _ _ 11 [(0, .ref (pl 203)), (1, .int (iI x))] [.int (iI (s 21))] _ _ _ _
    refine pm_e_sim pm_a115_11 rfl ?_
    show pm_E _ _ _ 12 [(0, .ref (pl 203)), (1, .int (iI x))] [.ref (pl 203), .int (iI (s 21))] _ _ _ _
    refine pm_i_get pm_a115_12 rfl (cg_203 hW h203) rfl ?_
    show pm_E _ _ _ 15 [(0, .ref (pl 203)), (1, .int (iI x))] [.ref (pl 210), .int (iI (s 21))] _ _ _ _
    refine pm_i_aln pm_a115_15 (cg_210 hW h203) ?_
    show pm_E _ _ _ 16 [(0, .ref (pl 203)), (1, .int (iI x))] [.int (iI 501), .int (iI (s 21))] _ _ _ _
    refine pm_c_ge (t := 39) pm_a115_16 rfl ⟨by omega, by omega⟩ ⟨by omega, by omega⟩ (fun h_2 => ?_) (fun h_2 => ?_)
    · skip
      show pm_E _ _ _ 39 [(0, .ref (pl 203)), (1, .int (iI x))] [] _ _ _ _
      refine pm_e_ret pm_a115_39 rfl rfl rfl rfl rfl rfl rfl rfl ?_
      exfalso
      omega
    · skip
      show pm_E _ _ _ 19 [(0, .ref (pl 203)), (1, .int (iI x))] [] _ _ _ _
      refine pm_e_sim pm_a115_19 rfl ?_
      show pm_E _ _ _ 20 [(0, .ref (pl 203)), (1, .int (iI x))] [.ref (pl 203)] _ _ _ _
      refine pm_i_get pm_a115_20 rfl (cg_203 hW h203) rfl ?_
      show pm_E _ _ _ 23 [(0, .ref (pl 203)), (1, .int (iI x))] [.ref (pl 210)] _ _ _ _
      refine pm_e_sim pm_a115_23 rfl ?_
      show pm_E _ _ _ 24 [(0, .ref (pl 203)), (1, .int (iI x))] [.ref (pl 203), .ref (pl 210)] _ _ _ _
      refine pm_i_get pm_a115_24 rfl (cg_203 hW h203) rfl ?_
      show pm_E _ _ _ 27 [(0, .ref (pl 203)), (1, .int (iI x))] [.int (iI (s 21)), .ref (pl 210)] _ _ _ _
      refine pm_e_sim pm_a115_27 rfl ?_
      show pm_E _ _ _ 28 [(0, .ref (pl 203)), (1, .int (iI x))] [.int (iI x), .int (iI (s 21)), .ref (pl 210)] _ _ _ _
      refine pm_i_ast pm_a115_28 (cg_210 hW h203) (by omega) (by omega) ⟨by omega, by omega⟩ (ca_210 hW h203 _) ?_
      show pm_E _ _ _ 29 [(0, .ref (pl 203)), (1, .int (iI x))] [] _ _ _ _
      refine pm_e_sim pm_a115_29 rfl ?_
      show pm_E _ _ _ 30 [(0, .ref (pl 203)), (1, .int (iI x))] [.ref (pl 203)] _ _ _ _
      refine pm_e_sim pm_a115_30 rfl ?_
      show pm_E _ _ _ 31 [(0, .ref (pl 203)), (1, .int (iI x))] [.ref (pl 203), .ref (pl 203)] _ _ _ _
      refine pm_i_get pm_a115_31 rfl (cg_203 hW h203) rfl ?_
      show pm_E _ _ _ 34 [(0, .ref (pl 203)), (1, .int (iI x))] [.int (iI (s 21)), .ref (pl 203)] _ _ _ _
      refine pm_e_sim pm_a115_34 rfl ?_
      refine pm_e_top (y := iI 1) (by decide +kernel) ?_
      show pm_E _ _ _ 35 [(0, .ref (pl 203)), (1, .int (iI x))] [.int (iI 1), .int (iI (s 21)), .ref (pl 203)] _ _ _ _
      refine pm_e_sim pm_a115_35 rfl ?_
      refine pm_e_top (y := iI (s 21 + 1)) (iI_add _ _) ?_
      show pm_E _ _ _ 36 [(0, .ref (pl 203)), (1, .int (iI x))] [.int (iI (s 21 + 1)), .ref (pl 203)] _ _ _ _
      refine pm_i_put pm_a115_36 rfl (cg_203 hW h203) rfl (Nat.le_of_ble_eq_true rfl) (Or.inl rfl) (cw_21 hW h203 (s 21 + 1)) ?_
      show pm_E _ _ _ 39 [(0, .ref (pl 203)), (1, .int (iI x))] [] _ _ _ _
      refine pm_e_ret pm_a115_39 rfl rfl rfl rfl rfl rfl rfl rfl ?_
      exact k
set_option maxHeartbeats 4000000 in
set_option maxRecDepth 100000 in
theorem C_znext {d n : Nat} {kd pl : Nat → Nat} {s : Nat → Int} {a : Nat → Int → Int} {c : Nat → cdt} {M : List va_E} {Q : Option Value → List va_E → Nat → Nat → Prop} (hW : wf n kd pl) (h203 : al n kd pl 203) (h0 : 0 < s 21) (h1 : s 21 ≤ 501) (k : Q (some (.int (iI (a 15 (s 21 - 1))))) (ch n kd pl (updS s 21 (s 21 - 1)) a c M) 0 0) : pm_E none d pm_mm116 0 [(0, .ref (pl 203))] [] (ch n kd pl s a c M) 0 0 Q := by
  refine pm_e_sim pm_a116_0 rfl ?_
  show pm_E _ _ _ 1 [(0, .ref (pl 203))] [.ref (pl 203)] _ _ _ _
  refine pm_i_get pm_a116_1 rfl (cg_203 hW h203) rfl ?_
  show pm_E _ _ _ 4 [(0, .ref (pl 203))] [.int (iI (s 21))] _ _ _ _
  refine pm_i_le (t := 19) pm_a116_4 rfl ⟨by omega, by omega⟩ (fun h_1 => ?_) (fun h_1 => ?_)
  · skip
    show pm_E _ _ _ 19 [(0, .ref (pl 203))] [] _ _ _ _
    refine pm_e_sim pm_a116_19 rfl ?_
    refine pm_e_top (y := iI 0) (by decide +kernel) ?_
    show pm_E _ _ _ 20 [(0, .ref (pl 203))] [.int (iI 0)] _ _ _ _
    refine pm_e_ret pm_a116_20 rfl rfl rfl rfl rfl rfl rfl rfl ?_
    exfalso
    omega
  · skip
    show pm_E _ _ _ 7 [(0, .ref (pl 203))] [] _ _ _ _
    refine pm_e_sim pm_a116_7 rfl ?_
    show pm_E _ _ _ 8 [(0, .ref (pl 203))] [.ref (pl 203)] _ _ _ _
    refine pm_i_get pm_a116_8 rfl (cg_203 hW h203) rfl ?_
    show pm_E _ _ _ 11 [(0, .ref (pl 203))] [.int (iI (s 21))] _ _ _ _
    refine pm_e_sim pm_a116_11 rfl ?_
    show pm_E _ _ _ 12 [(0, .ref (pl 203))] [.ref (pl 203), .int (iI (s 21))] _ _ _ _
    refine pm_i_get pm_a116_12 rfl (cg_203 hW h203) rfl ?_
    show pm_E _ _ _ 15 [(0, .ref (pl 203))] [.ref (pl 210), .int (iI (s 21))] _ _ _ _
    refine pm_i_aln pm_a116_15 (cg_210 hW h203) ?_
    show pm_E _ _ _ 16 [(0, .ref (pl 203))] [.int (iI 501), .int (iI (s 21))] _ _ _ _
    refine pm_c_le (t := 21) pm_a116_16 rfl ⟨by omega, by omega⟩ ⟨by omega, by omega⟩ (fun h_2 => ?_) (fun h_2 => ?_)
    · skip
      show pm_E _ _ _ 21 [(0, .ref (pl 203))] [] _ _ _ _
      refine pm_e_sim pm_a116_21 rfl ?_
      show pm_E _ _ _ 22 [(0, .ref (pl 203))] [.ref (pl 203)] _ _ _ _
      refine pm_e_sim pm_a116_22 rfl ?_
      show pm_E _ _ _ 23 [(0, .ref (pl 203))] [.ref (pl 203), .ref (pl 203)] _ _ _ _
      refine pm_i_get pm_a116_23 rfl (cg_203 hW h203) rfl ?_
      show pm_E _ _ _ 26 [(0, .ref (pl 203))] [.int (iI (s 21)), .ref (pl 203)] _ _ _ _
      refine pm_e_sim pm_a116_26 rfl ?_
      refine pm_e_top (y := iI 1) (by decide +kernel) ?_
      show pm_E _ _ _ 27 [(0, .ref (pl 203))] [.int (iI 1), .int (iI (s 21)), .ref (pl 203)] _ _ _ _
      refine pm_e_sim pm_a116_27 rfl ?_
      refine pm_e_top (y := iI (s 21 - 1)) (iI_sub _ _) ?_
      show pm_E _ _ _ 28 [(0, .ref (pl 203))] [.int (iI (s 21 - 1)), .ref (pl 203)] _ _ _ _
      refine pm_i_put pm_a116_28 rfl (cg_203 hW h203) rfl (Nat.le_of_ble_eq_true rfl) (Or.inl rfl) (cw_21 hW h203 (s 21 - 1)) ?_
      show pm_E _ _ _ 31 [(0, .ref (pl 203))] [] _ _ _ _
      refine pm_e_sim pm_a116_31 rfl ?_
      show pm_E _ _ _ 32 [(0, .ref (pl 203))] [.ref (pl 203)] _ _ _ _
      refine pm_i_get pm_a116_32 rfl (cg_203 hW h203) rfl ?_
      show pm_E _ _ _ 35 [(0, .ref (pl 203))] [.ref (pl 210)] _ _ _ _
      refine pm_e_sim pm_a116_35 rfl ?_
      show pm_E _ _ _ 36 [(0, .ref (pl 203))] [.ref (pl 203), .ref (pl 210)] _ _ _ _
      refine pm_i_get pm_a116_36 rfl (cg_203 hW h203) rfl ?_
      show pm_E _ _ _ 39 [(0, .ref (pl 203))] [.int (iI (s 21 - 1)), .ref (pl 210)] _ _ _ _
      refine pm_i_ald pm_a116_39 (cg_210 hW h203) (by omega) (by omega) ⟨by omega, by omega⟩ ?_
      show pm_E _ _ _ 40 [(0, .ref (pl 203))] [.int (iI ((a 15) (s 21 - 1)))] _ _ _ _
      refine pm_e_ret pm_a116_40 rfl rfl rfl rfl rfl rfl rfl rfl ?_
      exact k
    · skip
      show pm_E _ _ _ 19 [(0, .ref (pl 203))] [] _ _ _ _
      refine pm_e_sim pm_a116_19 rfl ?_
      refine pm_e_top (y := iI 0) (by decide +kernel) ?_
      show pm_E _ _ _ 20 [(0, .ref (pl 203))] [.int (iI 0)] _ _ _ _
      refine pm_e_ret pm_a116_20 rfl rfl rfl rfl rfl rfl rfl rfl ?_
      exfalso
      omega
set_option maxHeartbeats 4000000 in
set_option maxRecDepth 100000 in
theorem C_zenqueue {d n : Nat} {kd pl : Nat → Nat} {s : Nat → Int} {a : Nat → Int → Int} {c : Nat → cdt} {M : List va_E} {Q : Option Value → List va_E → Nat → Nat → Prop} {x q : Int} (hW : wf n kd pl) (h203 : al n kd pl 203) (h0 : 0 ≤ q) (h1 : q < 2800) (k : Q (some (.int (iI (q + 1)))) (ch n kd pl s (updA a 12 (updI (a 12) q x)) c M) 0 0) : pm_E none (d + 1) pm_mm125 0 [(0, .ref (pl 203)), (1, .int (iI x)), (2, .int (iI q))] [] (ch n kd pl s a c M) 0 0 Q := by
  refine pm_e_sim pm_a125_0 rfl ?_
  show pm_E _ _ _ 1 [(0, .ref (pl 203)), (1, .int (iI x)), (2, .int (iI q))] [.int (iI q)] _ _ _ _
  refine pm_i_lt (t := 11) pm_a125_1 rfl ⟨by omega, by omega⟩ (fun h_1 => ?_) (fun h_1 => ?_)
  · skip
    show pm_E _ _ _ 11 [(0, .ref (pl 203)), (1, .int (iI x)), (2, .int (iI q))] [] _ _ _ _
    refine pm_e_sim pm_a125_11 rfl ?_
    show pm_E _ _ _ 12 [(0, .ref (pl 203)), (1, .int (iI x)), (2, .int (iI q))] [.int (iI q)] _ _ _ _
    refine pm_e_ret pm_a125_12 rfl rfl rfl rfl rfl rfl rfl rfl ?_
    exfalso
    omega
  · skip
    show pm_E _ _ _ 4 [(0, .ref (pl 203)), (1, .int (iI x)), (2, .int (iI q))] [] _ _ _ _
    refine pm_e_sim pm_a125_4 rfl ?_
    show pm_E _ _ _ 5 [(0, .ref (pl 203)), (1, .int (iI x)), (2, .int (iI q))] [.int (iI q)] _ _ _ _
    refine pm_e_sim pm_a125_5 rfl ?_
    refine pm_e_top (y := iI 2800) (by decide +kernel) ?_
    show pm_E _ _ _ 8 [(0, .ref (pl 203)), (1, .int (iI x)), (2, .int (iI q))] [.int (iI 2800), .int (iI q)] _ _ _ _
    refine pm_c_lt (t := 13) pm_a125_8 rfl ⟨by omega, by omega⟩ ⟨by omega, by omega⟩ (fun h_2 => ?_) (fun h_2 => ?_)
    · skip
      show pm_E _ _ _ 13 [(0, .ref (pl 203)), (1, .int (iI x)), (2, .int (iI q))] [] _ _ _ _
      refine pm_e_sim pm_a125_13 rfl ?_
      show pm_E _ _ _ 14 [(0, .ref (pl 203)), (1, .int (iI x)), (2, .int (iI q))] [.ref (pl 203)] _ _ _ _
      refine pm_i_get pm_a125_14 rfl (cg_203 hW h203) rfl ?_
      show pm_E _ _ _ 17 [(0, .ref (pl 203)), (1, .int (iI x)), (2, .int (iI q))] [.ref (pl 207)] _ _ _ _
      refine pm_e_sim pm_a125_17 rfl ?_
      show pm_E _ _ _ 18 [(0, .ref (pl 203)), (1, .int (iI x)), (2, .int (iI q))] [.int (iI q), .ref (pl 207)] _ _ _ _
      refine pm_e_sim pm_a125_18 rfl ?_
      show pm_E _ _ _ 19 [(0, .ref (pl 203)), (1, .int (iI x)), (2, .int (iI q))] [.int (iI x), .int (iI q), .ref (pl 207)] _ _ _ _
      refine pm_e_call (T2 := pm_mm114) pm_a125_19 rfl rfl rfl rfl rfl rfl rfl rfl rfl ?_
      show pm_E none _ _ 0 [(0, .ref (pl 207)), (1, .int (iI q)), (2, .int (iI x))] [] _ _ _ _
      refine C_zset_207 hW h203 (by omega) (by omega) ?_
      show pm_E _ _ _ 22 [(0, .ref (pl 203)), (1, .int (iI x)), (2, .int (iI q))] [] _ _ _ _
      refine pm_e_sim pm_a125_22 rfl ?_
      show pm_E _ _ _ 23 [(0, .ref (pl 203)), (1, .int (iI x)), (2, .int (iI q))] [.int (iI q)] _ _ _ _
      refine pm_e_sim pm_a125_23 rfl ?_
      refine pm_e_top (y := iI 1) (by decide +kernel) ?_
      show pm_E _ _ _ 24 [(0, .ref (pl 203)), (1, .int (iI x)), (2, .int (iI q))] [.int (iI 1), .int (iI q)] _ _ _ _
      refine pm_e_sim pm_a125_24 rfl ?_
      refine pm_e_top (y := iI (q + 1)) (iI_add _ _) ?_
      show pm_E _ _ _ 25 [(0, .ref (pl 203)), (1, .int (iI x)), (2, .int (iI q))] [.int (iI (q + 1))] _ _ _ _
      refine pm_e_ret pm_a125_25 rfl rfl rfl rfl rfl rfl rfl rfl ?_
      exact k
    · skip
      show pm_E _ _ _ 11 [(0, .ref (pl 203)), (1, .int (iI x)), (2, .int (iI q))] [] _ _ _ _
      refine pm_e_sim pm_a125_11 rfl ?_
      show pm_E _ _ _ 12 [(0, .ref (pl 203)), (1, .int (iI x)), (2, .int (iI q))] [.int (iI q)] _ _ _ _
      refine pm_e_ret pm_a125_12 rfl rfl rfl rfl rfl rfl rfl rfl ?_
      exfalso
      omega
