/-! THE CLASS'S CELLS: kd the kind of a place, pl the place of a kind; scalars s, rows a, codes c: LambdaShelf.many s 0, LambdaShelf.latestFault s 1, LambdaShelf.latestEnding s 2, LambdaShelf.latestGreatest s 3, Tape.length s 4, Reader.itemCount s 5, Reader.row s 6, Reader.open s 7, Reader.inHead s 8, Reader.kind s 9, Reader.start s 10, Reader.next s 11, Reader.fault s 12, Reader.faultPlace s 13, Teller.aroundCount s 14, Teller.depth s 15, Teller.wanted s 16, Teller.told s 17, Teller.found s 18, Abstracter.front s 19, Typer.nodes s 20, Typer.waitingCount s 21, Typer.shared s 22; rows kind 2: a 0, kind 7: a 1, kind 8: a 2, kind 10: a 3, kind 11: a 4, kind 12: a 5, kind 14: a 6, kind 201: a 7, kind 202: a 8, kind 204: a 9, kind 205: a 10, kind 206: a 11, kind 207: a 12, kind 208: a 13, kind 209: a 14, kind 210: a 15; code j: kinds 60 + 2 j, 61 + 2 j: 0 trial, 1 turner.made, 2 body, 3 abstracter.made, 4 typer.made, 5 latest, 6 + t the t-th term -/
abbrev cdt : Type := Int × Int × (Int → Int)
def rm (j : Nat) : Nat := if j = 2 then 502 else 500
def vo (p : Nat) : Value := if p = 0 then .null else .ref p
def voo (p : Nat) : Option Nat := if p = 0 then none else some p
def updC (c : Nat → cdt) (j : Nat) (x : cdt) : Nat → cdt := fun i => if i = j then x else c i
def cf0 (pl : Nat → Nat) (s : Nat → Int) : List Value := [.ref (pl 1), .ref (pl 3), .ref (pl 60), .ref (pl 6), .ref (pl 9), .ref (pl 13), .ref (pl 15), vo (pl 200), vo (pl 203), .int (iI (s 0)), .int (iI (s 1)), .int (iI (s 2)), .int (iI (s 3))]
def cf1 (pl : Nat → Nat) (s : Nat → Int) : List Value := [.ref (pl 2), .int (iI (s 4))]
def cf6 (pl : Nat → Nat) (s : Nat → Int) : List Value := [.ref (pl 7), .ref (pl 8)]
def cf9 (pl : Nat → Nat) (s : Nat → Int) : List Value := [.ref (pl 10), .ref (pl 11), .ref (pl 12), .ref (pl 1), .int (iI (s 5)), .int (iI (s 6)), .int (iI (s 7)), .int (iI (s 8)), .int (iI (s 9)), .int (iI (s 10)), .int (iI (s 11)), .int (iI (s 12)), .int (iI (s 13))]
def cf13 (pl : Nat → Nat) (s : Nat → Int) : List Value := [.ref (pl 14), .int (iI (s 14)), .int (iI (s 15)), .int (iI (s 16)), .int (iI (s 17)), .int (iI (s 18))]
def cf15 (pl : Nat → Nat) (s : Nat → Int) : List Value := [.ref (pl 6), .ref (pl 62)]
def cf200 (pl : Nat → Nat) (s : Nat → Int) : List Value := [.ref (pl 6), .ref (pl 201), .ref (pl 202), .ref (pl 64), .ref (pl 66), .int (iI (s 19))]
def cf203 (pl : Nat → Nat) (s : Nat → Int) : List Value := [.ref (pl 6), .ref (pl 204), .ref (pl 205), .ref (pl 206), .ref (pl 207), .ref (pl 208), .ref (pl 209), .ref (pl 210), .ref (pl 68), .ref (pl 70), .int (iI (s 20)), .int (iI (s 21)), .int (iI (s 22))]
def cfc (pl : Nat → Nat) (c : Nat → cdt) (j : Nat) : List Value := [.ref (pl (61 + 2 * j)), .int (iI (c j).1), .int (iI (c j).2.1)]
def cft (pl : Nat → Nat) : Nat → Option Nat := fun i => if i < 32 then voo (pl (72 + 2 * i)) else none
def kc (pl : Nat → Nat) (s : Nat → Int) (a : Nat → Int → Int) (c : Nat → cdt) (M : List va_E) (k : Nat) : va_E :=
  if k < 18 then (match k with
    | 0 => .inr (8, cf0 pl s)
    | 1 => .inr (4, cf1 pl s)
    | 2 => .inl (0, 600, .inl (aI (a 0)))
    | 3 => .inl (3, 32, .inr (.inr (.inr (.inr (cft pl)))))
    | 6 => .inr (3, cf6 pl s)
    | 7 => .inl (0, 502, .inl (aI (a 1)))
    | 8 => .inl (0, 502, .inl (aI (a 2)))
    | 9 => .inr (2, cf9 pl s)
    | 10 => .inl (0, 601, .inl (aI (a 3)))
    | 11 => .inl (0, 40, .inl (aI (a 4)))
    | 12 => .inl (0, 40, .inl (aI (a 5)))
    | 13 => .inr (5, cf13 pl s)
    | 14 => .inl (0, 500, .inl (aI (a 6)))
    | 15 => .inr (6, cf15 pl s)
    | _ => .inr (0, []))
  else if k < 50 then M.getD (k - 18) (.inr (0, []))
  else if k < 60 then .inr (0, [])
  else if k < 200 then (if k % 2 = 0 then .inr (1, cfc pl c ((k - 60) / 2)) else .inl (0, rm ((k - 60) / 2), .inl (aI (c ((k - 60) / 2)).2.2)))
  else (match k with
    | 200 => .inr (0, cf200 pl s)
    | 201 => .inl (0, 1500, .inl (aI (a 7)))
    | 202 => .inl (0, 503, .inl (aI (a 8)))
    | 203 => .inr (7, cf203 pl s)
    | 204 => .inl (0, 2800, .inl (aI (a 9)))
    | 205 => .inl (0, 2800, .inl (aI (a 10)))
    | 206 => .inl (0, 2800, .inl (aI (a 11)))
    | 207 => .inl (0, 2800, .inl (aI (a 12)))
    | 208 => .inl (0, 2800, .inl (aI (a 13)))
    | 209 => .inl (0, 500, .inl (aI (a 14)))
    | 210 => .inl (0, 501, .inl (aI (a 15)))
    | _ => .inr (0, []))
def ch (n : Nat) (kd pl : Nat → Nat) (s : Nat → Int) (a : Nat → Int → Int) (c : Nat → cdt) (M : List va_E) : List va_E := (List.range n).map (fun q => kc pl s a c M (kd q))
def al (n : Nat) (kd pl : Nat → Nat) (k : Nat) : Prop := pl k < n ∧ kd (pl k) = k
def wf (n : Nat) (kd pl : Nat → Nat) : Prop := (∀ q, q < n → pl (kd q) = q) ∧ (∀ k ∈ [0, 1, 2, 3, 6, 7, 8, 9, 10, 11, 12, 13, 14, 15, 60, 61, 62, 63], al n kd pl k) ∧ (∀ j, j < 38 → al n kd pl (60 + 2 * j) → al n kd pl (61 + 2 * j)) ∧ (al n kd pl 200 → ∀ k ∈ [201, 202, 64, 66], al n kd pl k) ∧ (al n kd pl 203 → ∀ k ∈ [204, 205, 206, 207, 208, 209, 210, 68, 70], al n kd pl k) ∧ (∀ k, pl k ≠ 0 → al n kd pl k) ∧ pl 0 = 0
section CHH
variable {n : Nat} {kd pl : Nat → Nat} {s s' : Nat → Int} {a a' : Nat → Int → Int} {c c' : Nat → cdt} {M : List va_E}
theorem updC_at {c : Nat → cdt} {j : Nat} {x : cdt} : updC c j x j = x := by unfold updC; rw [if_pos rfl]
theorem updC_n {c : Nat → cdt} {i j : Nat} {x : cdt} (h : i ≠ j) : updC c j x i = c i := by unfold updC; rw [if_neg h]
theorem updC_s {c : Nat → cdt} {j : Nat} {x y : cdt} : updC (updC c j x) j y = updC c j y := by
  funext i
  unfold updC
  split
  · rfl
  · rfl
theorem updC_self {c : Nat → cdt} {j : Nat} : updC c j (c j) = c := by
  funext i
  unfold updC
  split
  · rename_i h; rw [h]
  · rfl
theorem updC_c {c : Nat → cdt} {i j : Nat} {x y : cdt} (h : i ≠ j) : updC (updC c i x) j y = updC (updC c j y) i x := by
  funext q
  unfold updC
  by_cases h1 : q = j
  · rw [if_pos h1, if_neg (by omega), if_pos h1]
  · rw [if_neg h1]
    by_cases h2 : q = i
    · rw [if_pos h2, if_pos h2]
    · rw [if_neg h2, if_neg h2, if_neg h1]
theorem ch_get {k : Nat} (hk : al n kd pl k) : (ch n kd pl s a c M)[pl k]? = some (kc pl s a c M k) := by
  unfold ch
  rw [List.getElem?_map, List.getElem?_range hk.1, Option.map_some, hk.2]
theorem ch_upd {k : Nat} (hW : wf n kd pl) (hk : al n kd pl k) (h : ∀ k', k' ≠ k → kc pl s' a' c' M k' = kc pl s a c M k') : (ch n kd pl s a c M).set (pl k) (kc pl s' a' c' M k) = ch n kd pl s' a' c' M := by
  unfold ch
  refine List.ext_getElem? (fun q => ?_)
  rw [List.getElem?_set, List.length_map, List.length_range]
  by_cases hq : pl k = q
  · subst hq
    rw [if_pos rfl, if_pos hk.1, List.getElem?_map, List.getElem?_range hk.1, Option.map_some, hk.2]
  · rw [if_neg hq, List.getElem?_map, List.getElem?_map]
    by_cases hn : q < n
    · rw [List.getElem?_range hn, Option.map_some, Option.map_some, h (kd q) (fun z => hq (by rw [← z]; exact hW.1 q hn))]
    · rw [List.getElem?_eq_none (by rw [List.length_range]; omega)]
      rfl
theorem kc_o {j : Nat} (hj : j < 38) : kc pl s a c M (60 + 2 * j) = .inr (1, cfc pl c j) := by
  unfold kc
  rw [if_neg (by omega), if_neg (by omega), if_neg (by omega), if_pos (by omega), if_pos (by omega), show (60 + 2 * j - 60) / 2 = j by omega]
theorem kc_a {j : Nat} (hj : j < 38) : kc pl s a c M (61 + 2 * j) = .inl (0, rm j, .inl (aI (c j).2.2)) := by
  unfold kc
  rw [if_neg (by omega), if_neg (by omega), if_neg (by omega), if_pos (by omega), if_neg (by omega), show (61 + 2 * j - 60) / 2 = j by omega]
theorem cg_o {j : Nat} (hj : j < 38 ∧ al n kd pl (60 + 2 * j)) : (ch n kd pl s a c M)[pl (60 + 2 * j)]? = some (.inr (1, cfc pl c j)) := (ch_get hj.2).trans (congrArg some (kc_o hj.1))
theorem cg_a {j : Nat} (hW : wf n kd pl) (hj : j < 38 ∧ al n kd pl (60 + 2 * j)) : (ch n kd pl s a c M)[pl (61 + 2 * j)]? = some (.inl (0, rm j, .inl (aI (c j).2.2))) := (ch_get (hW.2.2.1 j hj.1 hj.2)).trans (congrArg some (kc_a hj.1))
theorem kc_c1 {j : Nat} {x : cdt} (hx : x.2.2 = (c j).2.2) {k' : Nat} (h : k' ≠ 60 + 2 * j) : kc pl s a (updC c j x) M k' = kc pl s a c M k' := by
  unfold kc
  split
  · rfl
  · split
    · rfl
    · split
      · rfl
      · split
        · split
          · unfold cfc; rw [updC_n (by omega)]
          · by_cases e : (k' - 60) / 2 = j
            · rw [e, updC_at, hx]
            · rw [updC_n e]
        · rfl
theorem kc_c2 {j : Nat} {x : cdt} (hx : x.1 = (c j).1) (hx2 : x.2.1 = (c j).2.1) {k' : Nat} (h : k' ≠ 61 + 2 * j) : kc pl s a (updC c j x) M k' = kc pl s a c M k' := by
  unfold kc
  split
  · rfl
  · split
    · rfl
    · split
      · rfl
      · split
        · split
          · by_cases e : (k' - 60) / 2 = j
            · unfold cfc; rw [e, updC_at, hx, hx2]
            · unfold cfc; rw [updC_n e]
          · rw [updC_n (by omega)]
        · rfl
theorem cw_len {j : Nat} (hW : wf n kd pl) (hj : j < 38 ∧ al n kd pl (60 + 2 * j)) (v : Int) : (ch n kd pl s a c M).set (pl (60 + 2 * j)) (.inr (1, (cfc pl c j).set 1 (.int (iI v)))) = ch n kd pl s a (updC c j (v, (c j).2)) M := by
  have h := ch_upd (s := s) (s' := s) (a := a) (a' := a) (c := c) (c' := updC c j (v, (c j).2)) (M := M) hW hj.2 (fun k' h => kc_c1 (x := (v, (c j).2)) rfl h)
  rw [kc_o hj.1] at h
  rw [← h]
  unfold cfc
  rw [updC_at]
  rfl
theorem cw_ov {j : Nat} (hW : wf n kd pl) (hj : j < 38 ∧ al n kd pl (60 + 2 * j)) (v : Int) : (ch n kd pl s a c M).set (pl (60 + 2 * j)) (.inr (1, (cfc pl c j).set 2 (.int (iI v)))) = ch n kd pl s a (updC c j ((c j).1, v, (c j).2.2)) M := by
  have h := ch_upd (s := s) (s' := s) (a := a) (a' := a) (c := c) (c' := updC c j ((c j).1, v, (c j).2.2)) (M := M) hW hj.2 (fun k' h => kc_c1 (x := ((c j).1, v, (c j).2.2)) rfl h)
  rw [kc_o hj.1] at h
  rw [← h]
  unfold cfc
  rw [updC_at]
  rfl
theorem cw_ca {j : Nat} (hW : wf n kd pl) (hj : j < 38 ∧ al n kd pl (60 + 2 * j)) (g : Int → Int) : (ch n kd pl s a c M).set (pl (61 + 2 * j)) (.inl (0, rm j, .inl (aI g))) = ch n kd pl s a (updC c j ((c j).1, (c j).2.1, g)) M := by
  have h := ch_upd (s := s) (s' := s) (a := a) (a' := a) (c := c) (c' := updC c j ((c j).1, (c j).2.1, g)) (M := M) hW (hW.2.2.1 j hj.1 hj.2) (fun k' h => kc_c2 (x := ((c j).1, (c j).2.1, g)) rfl rfl h)
  rw [kc_a hj.1, updC_at] at h
  exact h
theorem rm_b (j : Nat) : 500 ≤ rm j ∧ rm j ≤ 502 := by
  unfold rm
  split <;> omega
theorem cg_0 (hW : wf n kd pl) : (ch n kd pl s a c M)[pl 0]? = some (.inr (8, cf0 pl s)) := ch_get (hW.2.1 0 (by decide))
theorem cg_1 (hW : wf n kd pl) : (ch n kd pl s a c M)[pl 1]? = some (.inr (4, cf1 pl s)) := ch_get (hW.2.1 1 (by decide))
theorem cg_2 (hW : wf n kd pl) : (ch n kd pl s a c M)[pl 2]? = some (.inl (0, 600, .inl (aI (a 0)))) := ch_get (hW.2.1 2 (by decide))
theorem cg_3 (hW : wf n kd pl) : (ch n kd pl s a c M)[pl 3]? = some (.inl (3, 32, .inr (.inr (.inr (.inr (cft pl)))))) := ch_get (hW.2.1 3 (by decide))
theorem cg_6 (hW : wf n kd pl) : (ch n kd pl s a c M)[pl 6]? = some (.inr (3, cf6 pl s)) := ch_get (hW.2.1 6 (by decide))
theorem cg_7 (hW : wf n kd pl) : (ch n kd pl s a c M)[pl 7]? = some (.inl (0, 502, .inl (aI (a 1)))) := ch_get (hW.2.1 7 (by decide))
theorem cg_8 (hW : wf n kd pl) : (ch n kd pl s a c M)[pl 8]? = some (.inl (0, 502, .inl (aI (a 2)))) := ch_get (hW.2.1 8 (by decide))
theorem cg_9 (hW : wf n kd pl) : (ch n kd pl s a c M)[pl 9]? = some (.inr (2, cf9 pl s)) := ch_get (hW.2.1 9 (by decide))
theorem cg_10 (hW : wf n kd pl) : (ch n kd pl s a c M)[pl 10]? = some (.inl (0, 601, .inl (aI (a 3)))) := ch_get (hW.2.1 10 (by decide))
theorem cg_11 (hW : wf n kd pl) : (ch n kd pl s a c M)[pl 11]? = some (.inl (0, 40, .inl (aI (a 4)))) := ch_get (hW.2.1 11 (by decide))
theorem cg_12 (hW : wf n kd pl) : (ch n kd pl s a c M)[pl 12]? = some (.inl (0, 40, .inl (aI (a 5)))) := ch_get (hW.2.1 12 (by decide))
theorem cg_13 (hW : wf n kd pl) : (ch n kd pl s a c M)[pl 13]? = some (.inr (5, cf13 pl s)) := ch_get (hW.2.1 13 (by decide))
theorem cg_14 (hW : wf n kd pl) : (ch n kd pl s a c M)[pl 14]? = some (.inl (0, 500, .inl (aI (a 6)))) := ch_get (hW.2.1 14 (by decide))
theorem cg_15 (hW : wf n kd pl) : (ch n kd pl s a c M)[pl 15]? = some (.inr (6, cf15 pl s)) := ch_get (hW.2.1 15 (by decide))
theorem cg_200 (hW : wf n kd pl) (hk : al n kd pl 200) : (ch n kd pl s a c M)[pl 200]? = some (.inr (0, cf200 pl s)) := ch_get hk
theorem cg_201 (hW : wf n kd pl) (hk : al n kd pl 200) : (ch n kd pl s a c M)[pl 201]? = some (.inl (0, 1500, .inl (aI (a 7)))) := ch_get (hW.2.2.2.1 hk 201 (by decide))
theorem cg_202 (hW : wf n kd pl) (hk : al n kd pl 200) : (ch n kd pl s a c M)[pl 202]? = some (.inl (0, 503, .inl (aI (a 8)))) := ch_get (hW.2.2.2.1 hk 202 (by decide))
theorem cg_203 (hW : wf n kd pl) (hk : al n kd pl 203) : (ch n kd pl s a c M)[pl 203]? = some (.inr (7, cf203 pl s)) := ch_get hk
theorem cg_204 (hW : wf n kd pl) (hk : al n kd pl 203) : (ch n kd pl s a c M)[pl 204]? = some (.inl (0, 2800, .inl (aI (a 9)))) := ch_get (hW.2.2.2.2.1 hk 204 (by decide))
theorem cg_205 (hW : wf n kd pl) (hk : al n kd pl 203) : (ch n kd pl s a c M)[pl 205]? = some (.inl (0, 2800, .inl (aI (a 10)))) := ch_get (hW.2.2.2.2.1 hk 205 (by decide))
theorem cg_206 (hW : wf n kd pl) (hk : al n kd pl 203) : (ch n kd pl s a c M)[pl 206]? = some (.inl (0, 2800, .inl (aI (a 11)))) := ch_get (hW.2.2.2.2.1 hk 206 (by decide))
theorem cg_207 (hW : wf n kd pl) (hk : al n kd pl 203) : (ch n kd pl s a c M)[pl 207]? = some (.inl (0, 2800, .inl (aI (a 12)))) := ch_get (hW.2.2.2.2.1 hk 207 (by decide))
theorem cg_208 (hW : wf n kd pl) (hk : al n kd pl 203) : (ch n kd pl s a c M)[pl 208]? = some (.inl (0, 2800, .inl (aI (a 13)))) := ch_get (hW.2.2.2.2.1 hk 208 (by decide))
theorem cg_209 (hW : wf n kd pl) (hk : al n kd pl 203) : (ch n kd pl s a c M)[pl 209]? = some (.inl (0, 500, .inl (aI (a 14)))) := ch_get (hW.2.2.2.2.1 hk 209 (by decide))
theorem cg_210 (hW : wf n kd pl) (hk : al n kd pl 203) : (ch n kd pl s a c M)[pl 210]? = some (.inl (0, 501, .inl (aI (a 15)))) := ch_get (hW.2.2.2.2.1 hk 210 (by decide))
theorem cw_0 (hW : wf n kd pl) (v : Int) : (ch n kd pl s a c M).set (pl 0) (.inr (8, (cf0 pl s).set 9 (.int (iI v)))) = ch n kd pl (updS s 0 v) a c M := ch_upd (s' := updS s 0 v) (a' := a) (c' := c) hW (hW.2.1 0 (by decide)) (fun k' h => by
  unfold kc
  repeat' split
  all_goals first | rfl | exact absurd rfl h)
theorem cw_1 (hW : wf n kd pl) (v : Int) : (ch n kd pl s a c M).set (pl 0) (.inr (8, (cf0 pl s).set 10 (.int (iI v)))) = ch n kd pl (updS s 1 v) a c M := ch_upd (s' := updS s 1 v) (a' := a) (c' := c) hW (hW.2.1 0 (by decide)) (fun k' h => by
  unfold kc
  repeat' split
  all_goals first | rfl | exact absurd rfl h)
theorem cw_2 (hW : wf n kd pl) (v : Int) : (ch n kd pl s a c M).set (pl 0) (.inr (8, (cf0 pl s).set 11 (.int (iI v)))) = ch n kd pl (updS s 2 v) a c M := ch_upd (s' := updS s 2 v) (a' := a) (c' := c) hW (hW.2.1 0 (by decide)) (fun k' h => by
  unfold kc
  repeat' split
  all_goals first | rfl | exact absurd rfl h)
theorem cw_3 (hW : wf n kd pl) (v : Int) : (ch n kd pl s a c M).set (pl 0) (.inr (8, (cf0 pl s).set 12 (.int (iI v)))) = ch n kd pl (updS s 3 v) a c M := ch_upd (s' := updS s 3 v) (a' := a) (c' := c) hW (hW.2.1 0 (by decide)) (fun k' h => by
  unfold kc
  repeat' split
  all_goals first | rfl | exact absurd rfl h)
theorem cw_4 (hW : wf n kd pl) (v : Int) : (ch n kd pl s a c M).set (pl 1) (.inr (4, (cf1 pl s).set 1 (.int (iI v)))) = ch n kd pl (updS s 4 v) a c M := ch_upd (s' := updS s 4 v) (a' := a) (c' := c) hW (hW.2.1 1 (by decide)) (fun k' h => by
  unfold kc
  repeat' split
  all_goals first | rfl | exact absurd rfl h)
theorem cw_5 (hW : wf n kd pl) (v : Int) : (ch n kd pl s a c M).set (pl 9) (.inr (2, (cf9 pl s).set 4 (.int (iI v)))) = ch n kd pl (updS s 5 v) a c M := ch_upd (s' := updS s 5 v) (a' := a) (c' := c) hW (hW.2.1 9 (by decide)) (fun k' h => by
  unfold kc
  repeat' split
  all_goals first | rfl | exact absurd rfl h)
theorem cw_6 (hW : wf n kd pl) (v : Int) : (ch n kd pl s a c M).set (pl 9) (.inr (2, (cf9 pl s).set 5 (.int (iI v)))) = ch n kd pl (updS s 6 v) a c M := ch_upd (s' := updS s 6 v) (a' := a) (c' := c) hW (hW.2.1 9 (by decide)) (fun k' h => by
  unfold kc
  repeat' split
  all_goals first | rfl | exact absurd rfl h)
theorem cw_7 (hW : wf n kd pl) (v : Int) : (ch n kd pl s a c M).set (pl 9) (.inr (2, (cf9 pl s).set 6 (.int (iI v)))) = ch n kd pl (updS s 7 v) a c M := ch_upd (s' := updS s 7 v) (a' := a) (c' := c) hW (hW.2.1 9 (by decide)) (fun k' h => by
  unfold kc
  repeat' split
  all_goals first | rfl | exact absurd rfl h)
theorem cw_8 (hW : wf n kd pl) (v : Int) : (ch n kd pl s a c M).set (pl 9) (.inr (2, (cf9 pl s).set 7 (.int (iI v)))) = ch n kd pl (updS s 8 v) a c M := ch_upd (s' := updS s 8 v) (a' := a) (c' := c) hW (hW.2.1 9 (by decide)) (fun k' h => by
  unfold kc
  repeat' split
  all_goals first | rfl | exact absurd rfl h)
theorem cw_9 (hW : wf n kd pl) (v : Int) : (ch n kd pl s a c M).set (pl 9) (.inr (2, (cf9 pl s).set 8 (.int (iI v)))) = ch n kd pl (updS s 9 v) a c M := ch_upd (s' := updS s 9 v) (a' := a) (c' := c) hW (hW.2.1 9 (by decide)) (fun k' h => by
  unfold kc
  repeat' split
  all_goals first | rfl | exact absurd rfl h)
theorem cw_10 (hW : wf n kd pl) (v : Int) : (ch n kd pl s a c M).set (pl 9) (.inr (2, (cf9 pl s).set 9 (.int (iI v)))) = ch n kd pl (updS s 10 v) a c M := ch_upd (s' := updS s 10 v) (a' := a) (c' := c) hW (hW.2.1 9 (by decide)) (fun k' h => by
  unfold kc
  repeat' split
  all_goals first | rfl | exact absurd rfl h)
theorem cw_11 (hW : wf n kd pl) (v : Int) : (ch n kd pl s a c M).set (pl 9) (.inr (2, (cf9 pl s).set 10 (.int (iI v)))) = ch n kd pl (updS s 11 v) a c M := ch_upd (s' := updS s 11 v) (a' := a) (c' := c) hW (hW.2.1 9 (by decide)) (fun k' h => by
  unfold kc
  repeat' split
  all_goals first | rfl | exact absurd rfl h)
theorem cw_12 (hW : wf n kd pl) (v : Int) : (ch n kd pl s a c M).set (pl 9) (.inr (2, (cf9 pl s).set 11 (.int (iI v)))) = ch n kd pl (updS s 12 v) a c M := ch_upd (s' := updS s 12 v) (a' := a) (c' := c) hW (hW.2.1 9 (by decide)) (fun k' h => by
  unfold kc
  repeat' split
  all_goals first | rfl | exact absurd rfl h)
theorem cw_13 (hW : wf n kd pl) (v : Int) : (ch n kd pl s a c M).set (pl 9) (.inr (2, (cf9 pl s).set 12 (.int (iI v)))) = ch n kd pl (updS s 13 v) a c M := ch_upd (s' := updS s 13 v) (a' := a) (c' := c) hW (hW.2.1 9 (by decide)) (fun k' h => by
  unfold kc
  repeat' split
  all_goals first | rfl | exact absurd rfl h)
theorem cw_14 (hW : wf n kd pl) (v : Int) : (ch n kd pl s a c M).set (pl 13) (.inr (5, (cf13 pl s).set 1 (.int (iI v)))) = ch n kd pl (updS s 14 v) a c M := ch_upd (s' := updS s 14 v) (a' := a) (c' := c) hW (hW.2.1 13 (by decide)) (fun k' h => by
  unfold kc
  repeat' split
  all_goals first | rfl | exact absurd rfl h)
theorem cw_15 (hW : wf n kd pl) (v : Int) : (ch n kd pl s a c M).set (pl 13) (.inr (5, (cf13 pl s).set 2 (.int (iI v)))) = ch n kd pl (updS s 15 v) a c M := ch_upd (s' := updS s 15 v) (a' := a) (c' := c) hW (hW.2.1 13 (by decide)) (fun k' h => by
  unfold kc
  repeat' split
  all_goals first | rfl | exact absurd rfl h)
theorem cw_16 (hW : wf n kd pl) (v : Int) : (ch n kd pl s a c M).set (pl 13) (.inr (5, (cf13 pl s).set 3 (.int (iI v)))) = ch n kd pl (updS s 16 v) a c M := ch_upd (s' := updS s 16 v) (a' := a) (c' := c) hW (hW.2.1 13 (by decide)) (fun k' h => by
  unfold kc
  repeat' split
  all_goals first | rfl | exact absurd rfl h)
theorem cw_17 (hW : wf n kd pl) (v : Int) : (ch n kd pl s a c M).set (pl 13) (.inr (5, (cf13 pl s).set 4 (.int (iI v)))) = ch n kd pl (updS s 17 v) a c M := ch_upd (s' := updS s 17 v) (a' := a) (c' := c) hW (hW.2.1 13 (by decide)) (fun k' h => by
  unfold kc
  repeat' split
  all_goals first | rfl | exact absurd rfl h)
theorem cw_18 (hW : wf n kd pl) (v : Int) : (ch n kd pl s a c M).set (pl 13) (.inr (5, (cf13 pl s).set 5 (.int (iI v)))) = ch n kd pl (updS s 18 v) a c M := ch_upd (s' := updS s 18 v) (a' := a) (c' := c) hW (hW.2.1 13 (by decide)) (fun k' h => by
  unfold kc
  repeat' split
  all_goals first | rfl | exact absurd rfl h)
theorem cw_19 (hW : wf n kd pl) (hk : al n kd pl 200) (v : Int) : (ch n kd pl s a c M).set (pl 200) (.inr (0, (cf200 pl s).set 5 (.int (iI v)))) = ch n kd pl (updS s 19 v) a c M := ch_upd (s' := updS s 19 v) (a' := a) (c' := c) hW hk (fun k' h => by
  unfold kc
  repeat' split
  all_goals first | rfl | exact absurd rfl h)
theorem cw_20 (hW : wf n kd pl) (hk : al n kd pl 203) (v : Int) : (ch n kd pl s a c M).set (pl 203) (.inr (7, (cf203 pl s).set 10 (.int (iI v)))) = ch n kd pl (updS s 20 v) a c M := ch_upd (s' := updS s 20 v) (a' := a) (c' := c) hW hk (fun k' h => by
  unfold kc
  repeat' split
  all_goals first | rfl | exact absurd rfl h)
theorem cw_21 (hW : wf n kd pl) (hk : al n kd pl 203) (v : Int) : (ch n kd pl s a c M).set (pl 203) (.inr (7, (cf203 pl s).set 11 (.int (iI v)))) = ch n kd pl (updS s 21 v) a c M := ch_upd (s' := updS s 21 v) (a' := a) (c' := c) hW hk (fun k' h => by
  unfold kc
  repeat' split
  all_goals first | rfl | exact absurd rfl h)
theorem cw_22 (hW : wf n kd pl) (hk : al n kd pl 203) (v : Int) : (ch n kd pl s a c M).set (pl 203) (.inr (7, (cf203 pl s).set 12 (.int (iI v)))) = ch n kd pl (updS s 22 v) a c M := ch_upd (s' := updS s 22 v) (a' := a) (c' := c) hW hk (fun k' h => by
  unfold kc
  repeat' split
  all_goals first | rfl | exact absurd rfl h)
theorem ca_2 (hW : wf n kd pl) (g : Int → Int) : (ch n kd pl s a c M).set (pl 2) (.inl (0, 600, .inl (aI g))) = ch n kd pl s (updA a 0 g) c M := ch_upd (s' := s) (a' := updA a 0 g) (c' := c) hW (hW.2.1 2 (by decide)) (fun k' h => by
  unfold kc
  repeat' split
  all_goals first | rfl | exact absurd rfl h)
theorem ca_7 (hW : wf n kd pl) (g : Int → Int) : (ch n kd pl s a c M).set (pl 7) (.inl (0, 502, .inl (aI g))) = ch n kd pl s (updA a 1 g) c M := ch_upd (s' := s) (a' := updA a 1 g) (c' := c) hW (hW.2.1 7 (by decide)) (fun k' h => by
  unfold kc
  repeat' split
  all_goals first | rfl | exact absurd rfl h)
theorem ca_8 (hW : wf n kd pl) (g : Int → Int) : (ch n kd pl s a c M).set (pl 8) (.inl (0, 502, .inl (aI g))) = ch n kd pl s (updA a 2 g) c M := ch_upd (s' := s) (a' := updA a 2 g) (c' := c) hW (hW.2.1 8 (by decide)) (fun k' h => by
  unfold kc
  repeat' split
  all_goals first | rfl | exact absurd rfl h)
theorem ca_10 (hW : wf n kd pl) (g : Int → Int) : (ch n kd pl s a c M).set (pl 10) (.inl (0, 601, .inl (aI g))) = ch n kd pl s (updA a 3 g) c M := ch_upd (s' := s) (a' := updA a 3 g) (c' := c) hW (hW.2.1 10 (by decide)) (fun k' h => by
  unfold kc
  repeat' split
  all_goals first | rfl | exact absurd rfl h)
theorem ca_11 (hW : wf n kd pl) (g : Int → Int) : (ch n kd pl s a c M).set (pl 11) (.inl (0, 40, .inl (aI g))) = ch n kd pl s (updA a 4 g) c M := ch_upd (s' := s) (a' := updA a 4 g) (c' := c) hW (hW.2.1 11 (by decide)) (fun k' h => by
  unfold kc
  repeat' split
  all_goals first | rfl | exact absurd rfl h)
theorem ca_12 (hW : wf n kd pl) (g : Int → Int) : (ch n kd pl s a c M).set (pl 12) (.inl (0, 40, .inl (aI g))) = ch n kd pl s (updA a 5 g) c M := ch_upd (s' := s) (a' := updA a 5 g) (c' := c) hW (hW.2.1 12 (by decide)) (fun k' h => by
  unfold kc
  repeat' split
  all_goals first | rfl | exact absurd rfl h)
theorem ca_14 (hW : wf n kd pl) (g : Int → Int) : (ch n kd pl s a c M).set (pl 14) (.inl (0, 500, .inl (aI g))) = ch n kd pl s (updA a 6 g) c M := ch_upd (s' := s) (a' := updA a 6 g) (c' := c) hW (hW.2.1 14 (by decide)) (fun k' h => by
  unfold kc
  repeat' split
  all_goals first | rfl | exact absurd rfl h)
theorem ca_201 (hW : wf n kd pl) (hk : al n kd pl 200) (g : Int → Int) : (ch n kd pl s a c M).set (pl 201) (.inl (0, 1500, .inl (aI g))) = ch n kd pl s (updA a 7 g) c M := ch_upd (s' := s) (a' := updA a 7 g) (c' := c) hW (hW.2.2.2.1 hk 201 (by decide)) (fun k' h => by
  unfold kc
  repeat' split
  all_goals first | rfl | exact absurd rfl h)
theorem ca_202 (hW : wf n kd pl) (hk : al n kd pl 200) (g : Int → Int) : (ch n kd pl s a c M).set (pl 202) (.inl (0, 503, .inl (aI g))) = ch n kd pl s (updA a 8 g) c M := ch_upd (s' := s) (a' := updA a 8 g) (c' := c) hW (hW.2.2.2.1 hk 202 (by decide)) (fun k' h => by
  unfold kc
  repeat' split
  all_goals first | rfl | exact absurd rfl h)
theorem ca_204 (hW : wf n kd pl) (hk : al n kd pl 203) (g : Int → Int) : (ch n kd pl s a c M).set (pl 204) (.inl (0, 2800, .inl (aI g))) = ch n kd pl s (updA a 9 g) c M := ch_upd (s' := s) (a' := updA a 9 g) (c' := c) hW (hW.2.2.2.2.1 hk 204 (by decide)) (fun k' h => by
  unfold kc
  repeat' split
  all_goals first | rfl | exact absurd rfl h)
theorem ca_205 (hW : wf n kd pl) (hk : al n kd pl 203) (g : Int → Int) : (ch n kd pl s a c M).set (pl 205) (.inl (0, 2800, .inl (aI g))) = ch n kd pl s (updA a 10 g) c M := ch_upd (s' := s) (a' := updA a 10 g) (c' := c) hW (hW.2.2.2.2.1 hk 205 (by decide)) (fun k' h => by
  unfold kc
  repeat' split
  all_goals first | rfl | exact absurd rfl h)
theorem ca_206 (hW : wf n kd pl) (hk : al n kd pl 203) (g : Int → Int) : (ch n kd pl s a c M).set (pl 206) (.inl (0, 2800, .inl (aI g))) = ch n kd pl s (updA a 11 g) c M := ch_upd (s' := s) (a' := updA a 11 g) (c' := c) hW (hW.2.2.2.2.1 hk 206 (by decide)) (fun k' h => by
  unfold kc
  repeat' split
  all_goals first | rfl | exact absurd rfl h)
theorem ca_207 (hW : wf n kd pl) (hk : al n kd pl 203) (g : Int → Int) : (ch n kd pl s a c M).set (pl 207) (.inl (0, 2800, .inl (aI g))) = ch n kd pl s (updA a 12 g) c M := ch_upd (s' := s) (a' := updA a 12 g) (c' := c) hW (hW.2.2.2.2.1 hk 207 (by decide)) (fun k' h => by
  unfold kc
  repeat' split
  all_goals first | rfl | exact absurd rfl h)
theorem ca_208 (hW : wf n kd pl) (hk : al n kd pl 203) (g : Int → Int) : (ch n kd pl s a c M).set (pl 208) (.inl (0, 2800, .inl (aI g))) = ch n kd pl s (updA a 13 g) c M := ch_upd (s' := s) (a' := updA a 13 g) (c' := c) hW (hW.2.2.2.2.1 hk 208 (by decide)) (fun k' h => by
  unfold kc
  repeat' split
  all_goals first | rfl | exact absurd rfl h)
theorem ca_209 (hW : wf n kd pl) (hk : al n kd pl 203) (g : Int → Int) : (ch n kd pl s a c M).set (pl 209) (.inl (0, 500, .inl (aI g))) = ch n kd pl s (updA a 14 g) c M := ch_upd (s' := s) (a' := updA a 14 g) (c' := c) hW (hW.2.2.2.2.1 hk 209 (by decide)) (fun k' h => by
  unfold kc
  repeat' split
  all_goals first | rfl | exact absurd rfl h)
theorem ca_210 (hW : wf n kd pl) (hk : al n kd pl 203) (g : Int → Int) : (ch n kd pl s a c M).set (pl 210) (.inl (0, 501, .inl (aI g))) = ch n kd pl s (updA a 15 g) c M := ch_upd (s' := s) (a' := updA a 15 g) (c' := c) hW (hW.2.2.2.2.1 hk 210 (by decide)) (fun k' h => by
  unfold kc
  repeat' split
  all_goals first | rfl | exact absurd rfl h)
end CHH
