/-! THE REFERENCE: next, letters and signs; the value of a number read -/
theorem lof_in (c : Int) : -4 ≤ lof c ∧ lof c ≤ 6 := by
  unfold lof
  split
  · omega
  split
  · omega
  split
  · omega
  split
  · omega
  split
  · omega
  omega
theorem rdl_v {g : Int → Int} {n b : Int} : ∀ (f : Nat) (i v : Int), b ≤ i → 0 ≤ v → v ≤ 99 → (i = b → v = 0) → (i = b + 1 → v ≤ 9) → 0 ≤ (rdl g 48 57 10 48 2 n b f i v).2 ∧ (rdl g 48 57 10 48 2 n b f i v).2 ≤ 99
  | 0, i, v, _, h1, h2, _, _ => ⟨h1, h2⟩
  | f + 1, i, v, h0, h1, h2, h3, h4 => by
    unfold rdl
    split
    · rename_i q
      split
      · rename_i q2
        exact rdl_v f (i + 1) _ (by omega) (by omega) (by omega) (by omega) (by omega)
      · exact rdl_v f (i + 1) _ (by omega) (by omega) (by omega) (by omega) (by omega)
    · exact ⟨h1, h2⟩
set_option maxHeartbeats 4000000 in
set_option maxRecDepth 100000 in
theorem M_next_4t {d : Nat} {A B : List va_E} {s : Nat → Int} {v : Int} {a : Nat → Int → Int} {nm : Nat → Int64} {Q : Option Value → List va_E → Nat → Nat → Prop} {c : Int} (hA : A.length = 18) (h13 : s 13 = 0) (h9 : 0 ≤ s 9) (h9' : s 9 ≤ 600) (hc : 0 ≤ c) (hc' : c ≤ 255) (k1 : lof c ≠ -4 → Q none (mh A (updS (updS s 11 3) 9 (s 9 + 1)) (lI (lof c)) a nm B) 0 0) (k2 : lof c = -4 → (c = 40 ∨ c = 41 ∨ c = 92 ∨ c = 46) → Q none (mh A (updS (updS s 11 4) 9 (s 9 + 1)) (lI c) a nm B) 0 0) (k3 : lof c = -4 → c ≠ 40 → c ≠ 41 → c ≠ 92 → c ≠ 46 → Q none (mh A (updS (updS s 13 1) 14 (s 10)) (lI v) a nm B) 0 0) : pm_E none (d + 1) pm_mm151 297 [(0, .ref 18), (1, .int (iI c))] [] (mh A s (lI v) a nm B) 0 0 Q := by
  refine pm_e_sim pm_a151_297 rfl ?_
  show pm_E _ _ _ 298 [(0, .ref 18), (1, .int (iI c))] [.int (iI c)] _ _ _ _
  refine pm_e_call (T2 := pm_mm154) pm_a151_298 rfl rfl rfl rfl rfl rfl rfl rfl rfl ?_
  show pm_E none _ _ 0 [(0, .int (iI c))] [] _ _ _ _
  refine M_letterOf ⟨by omega, by omega⟩ (fun r1 e1 => ?_)
  have b1 := lof_in c
  rw [e1] at b1
  show pm_E _ _ _ 301 [(0, .ref 18), (1, .int (iI c))] [.int (iI r1)] _ _ _ _
  refine pm_e_sim pm_a151_301 rfl ?_
  refine pm_e_top (y := iI (-4)) (by decide +kernel) ?_
  show pm_E _ _ _ 303 [(0, .ref 18), (1, .int (iI c))] [.int (iI (-4)), .int (iI r1)] _ _ _ _
  refine pm_c_eq (t := 333) pm_a151_303 rfl ⟨by omega, by omega⟩ ⟨by omega, by omega⟩ (fun h_1 => ?_) (fun h_1 => ?_)
  · skip
    show pm_E _ _ _ 333 [(0, .ref 18), (1, .int (iI c))] [] _ _ _ _
    refine pm_e_sim pm_a151_333 rfl ?_
    show pm_E _ _ _ 334 [(0, .ref 18), (1, .int (iI c))] [.int (iI c)] _ _ _ _
    refine pm_e_sim pm_a151_334 rfl ?_
    refine pm_e_top (y := iI 40) (by decide +kernel) ?_
    show pm_E _ _ _ 336 [(0, .ref 18), (1, .int (iI c))] [.int (iI 40), .int (iI c)] _ _ _ _
    refine pm_c_eq (t := 357) pm_a151_336 rfl ⟨by omega, by omega⟩ ⟨by omega, by omega⟩ (fun h_2 => ?_) (fun h_2 => ?_)
    · skip
      show pm_E _ _ _ 357 [(0, .ref 18), (1, .int (iI c))] [] _ _ _ _
      refine pm_e_sim pm_a151_357 rfl ?_
      show pm_E _ _ _ 358 [(0, .ref 18), (1, .int (iI c))] [.ref 18] _ _ _ _
      refine pm_e_sim pm_a151_358 rfl ?_
      refine pm_e_top (y := iI 4) (by decide +kernel) ?_
      show pm_E _ _ _ 359 [(0, .ref 18), (1, .int (iI c))] [.int (iI 4), .ref 18] _ _ _ _
      refine pm_i_put pm_a151_359 rfl (mh_get (j := 0) hA rfl) rfl (Nat.le_of_ble_eq_true rfl) (Or.inl rfl) (mw_11 hA _) ?_
      show pm_E _ _ _ 362 [(0, .ref 18), (1, .int (iI c))] [] _ _ _ _
      refine pm_e_sim pm_a151_362 rfl ?_
      show pm_E _ _ _ 363 [(0, .ref 18), (1, .int (iI c))] [.ref 18] _ _ _ _
      refine pm_e_sim pm_a151_363 rfl ?_
      show pm_E _ _ _ 364 [(0, .ref 18), (1, .int (iI c))] [.int (iI c), .ref 18] _ _ _ _
      refine pm_e_sim pm_a151_364 rfl ?_
      refine pm_l_top (y := lI (c)) (iI_l ⟨by omega, by omega⟩) ?_
      show pm_E _ _ _ 365 [(0, .ref 18), (1, .int (iI c))] [.long (lI c), .ref 18] _ _ _ _
      refine pm_i_put pm_a151_365 rfl (mh_get (j := 0) hA rfl) rfl (Nat.le_of_ble_eq_true rfl) (Or.inl rfl) (mw_l hA _) ?_
      show pm_E _ _ _ 368 [(0, .ref 18), (1, .int (iI c))] [] _ _ _ _
      refine pm_e_sim pm_a151_368 rfl ?_
      show pm_E _ _ _ 369 [(0, .ref 18), (1, .int (iI c))] [.ref 18] _ _ _ _
      refine pm_e_sim pm_a151_369 rfl ?_
      show pm_E _ _ _ 370 [(0, .ref 18), (1, .int (iI c))] [.ref 18, .ref 18] _ _ _ _
      refine pm_i_get pm_a151_370 rfl (mh_get (j := 0) hA rfl) rfl ?_
      show pm_E _ _ _ 373 [(0, .ref 18), (1, .int (iI c))] [.int (iI (s 9)), .ref 18] _ _ _ _
      refine pm_e_sim pm_a151_373 rfl ?_
      refine pm_e_top (y := iI 1) (by decide +kernel) ?_
      show pm_E _ _ _ 374 [(0, .ref 18), (1, .int (iI c))] [.int (iI 1), .int (iI (s 9)), .ref 18] _ _ _ _
      refine pm_e_sim pm_a151_374 rfl ?_
      refine pm_e_top (y := iI (s 9 + 1)) (iI_add _ _) ?_
      show pm_E _ _ _ 375 [(0, .ref 18), (1, .int (iI c))] [.int (iI (s 9 + 1)), .ref 18] _ _ _ _
      refine pm_i_put pm_a151_375 rfl (mh_get (j := 0) hA rfl) rfl (Nat.le_of_ble_eq_true rfl) (Or.inl rfl) (mw_9 hA _) ?_
      show pm_E _ _ _ 378 [(0, .ref 18), (1, .int (iI c))] [] _ _ _ _
      refine pm_e_goto pm_a151_378 rfl ?_
      show pm_E _ _ _ 390 [(0, .ref 18), (1, .int (iI c))] [] _ _ _ _
      refine pm_e_ret pm_a151_390 rfl rfl rfl rfl rfl rfl rfl rfl ?_
      exact k2 (by omega) (by omega)
    · skip
      show pm_E _ _ _ 339 [(0, .ref 18), (1, .int (iI c))] [] _ _ _ _
      refine pm_e_sim pm_a151_339 rfl ?_
      show pm_E _ _ _ 340 [(0, .ref 18), (1, .int (iI c))] [.int (iI c)] _ _ _ _
      refine pm_e_sim pm_a151_340 rfl ?_
      refine pm_e_top (y := iI 41) (by decide +kernel) ?_
      show pm_E _ _ _ 342 [(0, .ref 18), (1, .int (iI c))] [.int (iI 41), .int (iI c)] _ _ _ _
      refine pm_c_eq (t := 357) pm_a151_342 rfl ⟨by omega, by omega⟩ ⟨by omega, by omega⟩ (fun h_3 => ?_) (fun h_3 => ?_)
      · skip
        show pm_E _ _ _ 357 [(0, .ref 18), (1, .int (iI c))] [] _ _ _ _
        refine pm_e_sim pm_a151_357 rfl ?_
        show pm_E _ _ _ 358 [(0, .ref 18), (1, .int (iI c))] [.ref 18] _ _ _ _
        refine pm_e_sim pm_a151_358 rfl ?_
        refine pm_e_top (y := iI 4) (by decide +kernel) ?_
        show pm_E _ _ _ 359 [(0, .ref 18), (1, .int (iI c))] [.int (iI 4), .ref 18] _ _ _ _
        refine pm_i_put pm_a151_359 rfl (mh_get (j := 0) hA rfl) rfl (Nat.le_of_ble_eq_true rfl) (Or.inl rfl) (mw_11 hA _) ?_
        show pm_E _ _ _ 362 [(0, .ref 18), (1, .int (iI c))] [] _ _ _ _
        refine pm_e_sim pm_a151_362 rfl ?_
        show pm_E _ _ _ 363 [(0, .ref 18), (1, .int (iI c))] [.ref 18] _ _ _ _
        refine pm_e_sim pm_a151_363 rfl ?_
        show pm_E _ _ _ 364 [(0, .ref 18), (1, .int (iI c))] [.int (iI c), .ref 18] _ _ _ _
        refine pm_e_sim pm_a151_364 rfl ?_
        refine pm_l_top (y := lI (c)) (iI_l ⟨by omega, by omega⟩) ?_
        show pm_E _ _ _ 365 [(0, .ref 18), (1, .int (iI c))] [.long (lI c), .ref 18] _ _ _ _
        refine pm_i_put pm_a151_365 rfl (mh_get (j := 0) hA rfl) rfl (Nat.le_of_ble_eq_true rfl) (Or.inl rfl) (mw_l hA _) ?_
        show pm_E _ _ _ 368 [(0, .ref 18), (1, .int (iI c))] [] _ _ _ _
        refine pm_e_sim pm_a151_368 rfl ?_
        show pm_E _ _ _ 369 [(0, .ref 18), (1, .int (iI c))] [.ref 18] _ _ _ _
        refine pm_e_sim pm_a151_369 rfl ?_
        show pm_E _ _ _ 370 [(0, .ref 18), (1, .int (iI c))] [.ref 18, .ref 18] _ _ _ _
        refine pm_i_get pm_a151_370 rfl (mh_get (j := 0) hA rfl) rfl ?_
        show pm_E _ _ _ 373 [(0, .ref 18), (1, .int (iI c))] [.int (iI (s 9)), .ref 18] _ _ _ _
        refine pm_e_sim pm_a151_373 rfl ?_
        refine pm_e_top (y := iI 1) (by decide +kernel) ?_
        show pm_E _ _ _ 374 [(0, .ref 18), (1, .int (iI c))] [.int (iI 1), .int (iI (s 9)), .ref 18] _ _ _ _
        refine pm_e_sim pm_a151_374 rfl ?_
        refine pm_e_top (y := iI (s 9 + 1)) (iI_add _ _) ?_
        show pm_E _ _ _ 375 [(0, .ref 18), (1, .int (iI c))] [.int (iI (s 9 + 1)), .ref 18] _ _ _ _
        refine pm_i_put pm_a151_375 rfl (mh_get (j := 0) hA rfl) rfl (Nat.le_of_ble_eq_true rfl) (Or.inl rfl) (mw_9 hA _) ?_
        show pm_E _ _ _ 378 [(0, .ref 18), (1, .int (iI c))] [] _ _ _ _
        refine pm_e_goto pm_a151_378 rfl ?_
        show pm_E _ _ _ 390 [(0, .ref 18), (1, .int (iI c))] [] _ _ _ _
        refine pm_e_ret pm_a151_390 rfl rfl rfl rfl rfl rfl rfl rfl ?_
        exact k2 (by omega) (by omega)
      · skip
        show pm_E _ _ _ 345 [(0, .ref 18), (1, .int (iI c))] [] _ _ _ _
        refine pm_e_sim pm_a151_345 rfl ?_
        show pm_E _ _ _ 346 [(0, .ref 18), (1, .int (iI c))] [.int (iI c)] _ _ _ _
        refine pm_e_sim pm_a151_346 rfl ?_
        refine pm_e_top (y := iI 92) (by decide +kernel) ?_
        show pm_E _ _ _ 348 [(0, .ref 18), (1, .int (iI c))] [.int (iI 92), .int (iI c)] _ _ _ _
        refine pm_c_eq (t := 357) pm_a151_348 rfl ⟨by omega, by omega⟩ ⟨by omega, by omega⟩ (fun h_4 => ?_) (fun h_4 => ?_)
        · skip
          show pm_E _ _ _ 357 [(0, .ref 18), (1, .int (iI c))] [] _ _ _ _
          refine pm_e_sim pm_a151_357 rfl ?_
          show pm_E _ _ _ 358 [(0, .ref 18), (1, .int (iI c))] [.ref 18] _ _ _ _
          refine pm_e_sim pm_a151_358 rfl ?_
          refine pm_e_top (y := iI 4) (by decide +kernel) ?_
          show pm_E _ _ _ 359 [(0, .ref 18), (1, .int (iI c))] [.int (iI 4), .ref 18] _ _ _ _
          refine pm_i_put pm_a151_359 rfl (mh_get (j := 0) hA rfl) rfl (Nat.le_of_ble_eq_true rfl) (Or.inl rfl) (mw_11 hA _) ?_
          show pm_E _ _ _ 362 [(0, .ref 18), (1, .int (iI c))] [] _ _ _ _
          refine pm_e_sim pm_a151_362 rfl ?_
          show pm_E _ _ _ 363 [(0, .ref 18), (1, .int (iI c))] [.ref 18] _ _ _ _
          refine pm_e_sim pm_a151_363 rfl ?_
          show pm_E _ _ _ 364 [(0, .ref 18), (1, .int (iI c))] [.int (iI c), .ref 18] _ _ _ _
          refine pm_e_sim pm_a151_364 rfl ?_
          refine pm_l_top (y := lI (c)) (iI_l ⟨by omega, by omega⟩) ?_
          show pm_E _ _ _ 365 [(0, .ref 18), (1, .int (iI c))] [.long (lI c), .ref 18] _ _ _ _
          refine pm_i_put pm_a151_365 rfl (mh_get (j := 0) hA rfl) rfl (Nat.le_of_ble_eq_true rfl) (Or.inl rfl) (mw_l hA _) ?_
          show pm_E _ _ _ 368 [(0, .ref 18), (1, .int (iI c))] [] _ _ _ _
          refine pm_e_sim pm_a151_368 rfl ?_
          show pm_E _ _ _ 369 [(0, .ref 18), (1, .int (iI c))] [.ref 18] _ _ _ _
          refine pm_e_sim pm_a151_369 rfl ?_
          show pm_E _ _ _ 370 [(0, .ref 18), (1, .int (iI c))] [.ref 18, .ref 18] _ _ _ _
          refine pm_i_get pm_a151_370 rfl (mh_get (j := 0) hA rfl) rfl ?_
          show pm_E _ _ _ 373 [(0, .ref 18), (1, .int (iI c))] [.int (iI (s 9)), .ref 18] _ _ _ _
          refine pm_e_sim pm_a151_373 rfl ?_
          refine pm_e_top (y := iI 1) (by decide +kernel) ?_
          show pm_E _ _ _ 374 [(0, .ref 18), (1, .int (iI c))] [.int (iI 1), .int (iI (s 9)), .ref 18] _ _ _ _
          refine pm_e_sim pm_a151_374 rfl ?_
          refine pm_e_top (y := iI (s 9 + 1)) (iI_add _ _) ?_
          show pm_E _ _ _ 375 [(0, .ref 18), (1, .int (iI c))] [.int (iI (s 9 + 1)), .ref 18] _ _ _ _
          refine pm_i_put pm_a151_375 rfl (mh_get (j := 0) hA rfl) rfl (Nat.le_of_ble_eq_true rfl) (Or.inl rfl) (mw_9 hA _) ?_
          show pm_E _ _ _ 378 [(0, .ref 18), (1, .int (iI c))] [] _ _ _ _
          refine pm_e_goto pm_a151_378 rfl ?_
          show pm_E _ _ _ 390 [(0, .ref 18), (1, .int (iI c))] [] _ _ _ _
          refine pm_e_ret pm_a151_390 rfl rfl rfl rfl rfl rfl rfl rfl ?_
          exact k2 (by omega) (by omega)
        · skip
          show pm_E _ _ _ 351 [(0, .ref 18), (1, .int (iI c))] [] _ _ _ _
          refine pm_e_sim pm_a151_351 rfl ?_
          show pm_E _ _ _ 352 [(0, .ref 18), (1, .int (iI c))] [.int (iI c)] _ _ _ _
          refine pm_e_sim pm_a151_352 rfl ?_
          refine pm_e_top (y := iI 46) (by decide +kernel) ?_
          show pm_E _ _ _ 354 [(0, .ref 18), (1, .int (iI c))] [.int (iI 46), .int (iI c)] _ _ _ _
          refine pm_c_ne (t := 381) pm_a151_354 rfl ⟨by omega, by omega⟩ ⟨by omega, by omega⟩ (fun h_5 => ?_) (fun h_5 => ?_)
          · skip
            show pm_E _ _ _ 381 [(0, .ref 18), (1, .int (iI c))] [] _ _ _ _
            refine pm_e_sim pm_a151_381 rfl ?_
            show pm_E _ _ _ 382 [(0, .ref 18), (1, .int (iI c))] [.ref 18] _ _ _ _
            refine pm_e_sim pm_a151_382 rfl ?_
            refine pm_e_top (y := iI 1) (by decide +kernel) ?_
            show pm_E _ _ _ 383 [(0, .ref 18), (1, .int (iI c))] [.int (iI 1), .ref 18] _ _ _ _
            refine pm_e_sim pm_a151_383 rfl ?_
            show pm_E _ _ _ 384 [(0, .ref 18), (1, .int (iI c))] [.ref 18, .int (iI 1), .ref 18] _ _ _ _
            refine pm_i_get pm_a151_384 rfl (mh_get (j := 0) hA rfl) rfl ?_
            show pm_E _ _ _ 387 [(0, .ref 18), (1, .int (iI c))] [.int (iI (s 10)), .int (iI 1), .ref 18] _ _ _ _
            refine pm_i_callv (k := 18) (T2 := pm_mm153) pm_a151_387 rfl rfl rfl (mh_get (j := 0) hA rfl) ⟨Nat.le_of_ble_eq_true rfl, Nat.le_of_ble_eq_true rfl, rfl, by decide +kernel⟩ ?_
            show pm_E none _ _ 0 [(0, .ref 18), (1, .int (iI 1)), (2, .int (iI (s 10)))] [] _ _ _ _
            refine M_fails hA (show in32 (s 13) from ⟨by omega, by omega⟩) (fun h_6 => ?_) (fun h_6 => absurd h13 h_6)
            show pm_E _ _ _ 390 [(0, .ref 18), (1, .int (iI c))] [] _ _ _ _
            refine pm_e_ret pm_a151_390 rfl rfl rfl rfl rfl rfl rfl rfl ?_
            exact k3 (by omega) (by omega) (by omega) (by omega) (by omega)
          · skip
            show pm_E _ _ _ 357 [(0, .ref 18), (1, .int (iI c))] [] _ _ _ _
            refine pm_e_sim pm_a151_357 rfl ?_
            show pm_E _ _ _ 358 [(0, .ref 18), (1, .int (iI c))] [.ref 18] _ _ _ _
            refine pm_e_sim pm_a151_358 rfl ?_
            refine pm_e_top (y := iI 4) (by decide +kernel) ?_
            show pm_E _ _ _ 359 [(0, .ref 18), (1, .int (iI c))] [.int (iI 4), .ref 18] _ _ _ _
            refine pm_i_put pm_a151_359 rfl (mh_get (j := 0) hA rfl) rfl (Nat.le_of_ble_eq_true rfl) (Or.inl rfl) (mw_11 hA _) ?_
            show pm_E _ _ _ 362 [(0, .ref 18), (1, .int (iI c))] [] _ _ _ _
            refine pm_e_sim pm_a151_362 rfl ?_
            show pm_E _ _ _ 363 [(0, .ref 18), (1, .int (iI c))] [.ref 18] _ _ _ _
            refine pm_e_sim pm_a151_363 rfl ?_
            show pm_E _ _ _ 364 [(0, .ref 18), (1, .int (iI c))] [.int (iI c), .ref 18] _ _ _ _
            refine pm_e_sim pm_a151_364 rfl ?_
            refine pm_l_top (y := lI (c)) (iI_l ⟨by omega, by omega⟩) ?_
            show pm_E _ _ _ 365 [(0, .ref 18), (1, .int (iI c))] [.long (lI c), .ref 18] _ _ _ _
            refine pm_i_put pm_a151_365 rfl (mh_get (j := 0) hA rfl) rfl (Nat.le_of_ble_eq_true rfl) (Or.inl rfl) (mw_l hA _) ?_
            show pm_E _ _ _ 368 [(0, .ref 18), (1, .int (iI c))] [] _ _ _ _
            refine pm_e_sim pm_a151_368 rfl ?_
            show pm_E _ _ _ 369 [(0, .ref 18), (1, .int (iI c))] [.ref 18] _ _ _ _
            refine pm_e_sim pm_a151_369 rfl ?_
            show pm_E _ _ _ 370 [(0, .ref 18), (1, .int (iI c))] [.ref 18, .ref 18] _ _ _ _
            refine pm_i_get pm_a151_370 rfl (mh_get (j := 0) hA rfl) rfl ?_
            show pm_E _ _ _ 373 [(0, .ref 18), (1, .int (iI c))] [.int (iI (s 9)), .ref 18] _ _ _ _
            refine pm_e_sim pm_a151_373 rfl ?_
            refine pm_e_top (y := iI 1) (by decide +kernel) ?_
            show pm_E _ _ _ 374 [(0, .ref 18), (1, .int (iI c))] [.int (iI 1), .int (iI (s 9)), .ref 18] _ _ _ _
            refine pm_e_sim pm_a151_374 rfl ?_
            refine pm_e_top (y := iI (s 9 + 1)) (iI_add _ _) ?_
            show pm_E _ _ _ 375 [(0, .ref 18), (1, .int (iI c))] [.int (iI (s 9 + 1)), .ref 18] _ _ _ _
            refine pm_i_put pm_a151_375 rfl (mh_get (j := 0) hA rfl) rfl (Nat.le_of_ble_eq_true rfl) (Or.inl rfl) (mw_9 hA _) ?_
            show pm_E _ _ _ 378 [(0, .ref 18), (1, .int (iI c))] [] _ _ _ _
            refine pm_e_goto pm_a151_378 rfl ?_
            show pm_E _ _ _ 390 [(0, .ref 18), (1, .int (iI c))] [] _ _ _ _
            refine pm_e_ret pm_a151_390 rfl rfl rfl rfl rfl rfl rfl rfl ?_
            exact k2 (by omega) (by omega)
  · skip
    show pm_E _ _ _ 306 [(0, .ref 18), (1, .int (iI c))] [] _ _ _ _
    refine pm_e_sim pm_a151_306 rfl ?_
    show pm_E _ _ _ 307 [(0, .ref 18), (1, .int (iI c))] [.ref 18] _ _ _ _
    refine pm_e_sim pm_a151_307 rfl ?_
    refine pm_e_top (y := iI 3) (by decide +kernel) ?_
    show pm_E _ _ _ 308 [(0, .ref 18), (1, .int (iI c))] [.int (iI 3), .ref 18] _ _ _ _
    refine pm_i_put pm_a151_308 rfl (mh_get (j := 0) hA rfl) rfl (Nat.le_of_ble_eq_true rfl) (Or.inl rfl) (mw_11 hA _) ?_
    show pm_E _ _ _ 311 [(0, .ref 18), (1, .int (iI c))] [] _ _ _ _
    refine pm_e_sim pm_a151_311 rfl ?_
    show pm_E _ _ _ 312 [(0, .ref 18), (1, .int (iI c))] [.ref 18] _ _ _ _
    refine pm_e_sim pm_a151_312 rfl ?_
    show pm_E _ _ _ 313 [(0, .ref 18), (1, .int (iI c))] [.int (iI c), .ref 18] _ _ _ _
    refine pm_e_call (T2 := pm_mm154) pm_a151_313 rfl rfl rfl rfl rfl rfl rfl rfl rfl ?_
    show pm_E none _ _ 0 [(0, .int (iI c))] [] _ _ _ _
    refine M_letterOf ⟨by omega, by omega⟩ (fun r2 e2 => ?_)
    have b2 := lof_in c
    rw [e2] at b2
    show pm_E _ _ _ 316 [(0, .ref 18), (1, .int (iI c))] [.int (iI r2), .ref 18] _ _ _ _
    refine pm_e_sim pm_a151_316 rfl ?_
    refine pm_l_top (y := lI (r2)) (iI_l ⟨by omega, by omega⟩) ?_
    show pm_E _ _ _ 317 [(0, .ref 18), (1, .int (iI c))] [.long (lI r2), .ref 18] _ _ _ _
    refine pm_i_put pm_a151_317 rfl (mh_get (j := 0) hA rfl) rfl (Nat.le_of_ble_eq_true rfl) (Or.inl rfl) (mw_l hA _) ?_
    show pm_E _ _ _ 320 [(0, .ref 18), (1, .int (iI c))] [] _ _ _ _
    refine pm_e_sim pm_a151_320 rfl ?_
    show pm_E _ _ _ 321 [(0, .ref 18), (1, .int (iI c))] [.ref 18] _ _ _ _
    refine pm_e_sim pm_a151_321 rfl ?_
    show pm_E _ _ _ 322 [(0, .ref 18), (1, .int (iI c))] [.ref 18, .ref 18] _ _ _ _
    refine pm_i_get pm_a151_322 rfl (mh_get (j := 0) hA rfl) rfl ?_
    show pm_E _ _ _ 325 [(0, .ref 18), (1, .int (iI c))] [.int (iI (s 9)), .ref 18] _ _ _ _
    refine pm_e_sim pm_a151_325 rfl ?_
    refine pm_e_top (y := iI 1) (by decide +kernel) ?_
    show pm_E _ _ _ 326 [(0, .ref 18), (1, .int (iI c))] [.int (iI 1), .int (iI (s 9)), .ref 18] _ _ _ _
    refine pm_e_sim pm_a151_326 rfl ?_
    refine pm_e_top (y := iI (s 9 + 1)) (iI_add _ _) ?_
    show pm_E _ _ _ 327 [(0, .ref 18), (1, .int (iI c))] [.int (iI (s 9 + 1)), .ref 18] _ _ _ _
    refine pm_i_put pm_a151_327 rfl (mh_get (j := 0) hA rfl) rfl (Nat.le_of_ble_eq_true rfl) (Or.inl rfl) (mw_9 hA _) ?_
    show pm_E _ _ _ 330 [(0, .ref 18), (1, .int (iI c))] [] _ _ _ _
    refine pm_e_goto pm_a151_330 rfl ?_
    show pm_E _ _ _ 390 [(0, .ref 18), (1, .int (iI c))] [] _ _ _ _
    refine pm_e_ret pm_a151_390 rfl rfl rfl rfl rfl rfl rfl rfl ?_
    rw [show r2 = lof c by omega]
    exact k1 (by omega)
