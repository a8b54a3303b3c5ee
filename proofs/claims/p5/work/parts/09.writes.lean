/-! THE PURE MACHINE, 5: writes and new cells are sound -/
theorem pm_ow_cl {ci : Nat} {r : vw_C} (h : pm_cl[ci]? = some r) : pm_ow ci = r.1 := by
  have hl : ci < pm_cl.length := (List.getElem?_eq_some_iff.mp h).1
  have h1 : (List.range pm_cl.length).all (fun k => decide (pm_ow k = (pm_cl.getD k ("", pm_F0, 0)).1)) = true := by decide +kernel
  have h2 := of_decide_eq_true (List.all_eq_true.mp h1 ci (List.mem_range.mpr hl))
  rw [h2, List.getD_eq_getElem?_getD, h]
  rfl
def pm_flv (v : Value) : Bool := match v with
  | .int _ => true
  | .long _ => true
  | .null => true
  | _ => false
theorem pm_rs_flat {bS : Nat → Nat} {ad : List Nat} : ∀ {fs : List Value}, fs.all pm_flv = true → pm_rs bS ad fs fs
  | [], _ => trivial
  | v :: r, h => by
    rw [List.all_cons, Bool.and_eq_true] at h
    refine ⟨?_, pm_rs_flat h.2⟩
    cases v with
    | int x => rfl
    | long x => rfl
    | null => rfl
    | _ => cases h.1
theorem pm_dfs_flat {ci : Nat} {fs : List Value} (h : pm_dfs[ci]? = some fs) {bS : Nat → Nat} {ad : List Nat} : pm_rs bS ad fs fs := by
  have h1 : pm_dfs.all (fun q => q.all pm_flv) = true := by decide +kernel
  exact pm_rs_flat (List.all_eq_true.mp h1 fs (List.mem_of_getElem? h))
theorem pm_arr_ok {a : ArrayType} {p : Nat} (h : (a, p) ∈ pm_arp) : Cond.arrayClass (newarray.typeOf a) ∈ pm_tb := pm_at_good (List.all_eq_true.mp pm_arp_ok _ h) rfl
section PMWR
variable {p : Program} {l : Launch} {e : Env} {R : Room} {s : State} {m : MethodId} {args : Array Value} {below : List Frame} {meth : Method} {c : Code} {H : Heap} {locs : List Loc} {cells slots : Nat} {Q : State → Prop}
variable {cc : ByteArray} {pc nL : Nat} {ls : Array Slot} {bS : Nat → Nat} {ad : List Nat} {D : va_G} {A : Nat → Prop} {H0 : Heap} {ws : va_W} {ph : List va_E} {T : pm_M}
theorem pm_wr_ok (hx : p.tables.exec = Jvm.exec) (hb : c.code = cc) (hown : s.vm.findClass (pm_ow (pm_cn T)) = some m.cls) (hini : pm_ini T = true → meth.name = "<init>") (hts : ∀ w ∈ pm_tb, w.before args s = true) (hN : pm_Nn s) (hK : va_K D pm_cl [] s) (hP : va_P D pm_cl ws H) (hD : va_D A ws) (hS : va_S A H0 H locs) (hw : pm_rw bS ad s ph ws)
    {i : Instr} {st st2 stA : List Value} {k2 : Nat} {e2 : va_E} (h : pm_wr T i st ph = some (st2, k2, e2)) (hd : decode cc pc = .ok (i, pm_len i)) (hs : pm_rs bS ad st stA)
    (kk : ∀ (H1 : Heap) (locs1 : List Loc) (ws1 : va_W) (stA2 : List Value), va_P D pm_cl ws1 H1 → va_D A ws1 → va_S A H0 H1 locs1 → pm_rw bS ad s (ph.set k2 e2) ws1 → pm_rs bS ad st2 stA2 → W p l e R s m args below meth c H1 locs1 cells slots Q (F0 m (pc + pm_len i) ls stA2)) : W p l e R s m args below meth c H locs cells slots Q (F0 m pc ls stA) := by
  cases i
  case putfield idx =>
    replace h : pm_pf T idx st ph = some (st2, k2, e2) := h
    unfold pm_pf at h
    split at h
    · rename_i v st1
      obtain ⟨⟨a, r⟩, h1, h⟩ := Option.bind_eq_some_iff.mp h
      obtain ⟨⟨ci, k, nd, ps⟩, h2, h⟩ := Option.bind_eq_some_iff.mp h
      obtain ⟨fs, h3, h⟩ := Option.bind_eq_some_iff.mp h
      dsimp only at h
      split at h
      · rename_i hcond
        obtain ⟨hfit, hlen, hkind⟩ := hcond
        cases h
        obtain ⟨w, r0, rfl, hv, hr0⟩ := pm_rs_cons hs
        obtain rfl := pm_r1_ok h1
        obtain ⟨a', r', ha, rfl, hr⟩ := pm_rs_r hr0
        obtain ⟨e', he, hc⟩ := hw.at (pm_ob_ok h3) ha
        obtain ⟨fs', rfl, hf⟩ := hc
        obtain ⟨C, F, N, hcl, hk, hdecl, hq⟩ := pm_fr_facts h2
        have hin := (pm_cl_ok hcl).2.2.1
        have hty := (pm_cl_ok hcl).1
        have hnm := (pm_cl_ok hcl).2.1
        have hsame : ∀ x, s.fieldFound? (F k).1 (F k).2.1 (F k).2.2.1 = some x → s.fieldFound? C (F k).2.1 (F k).2.2.1 = some x := fun x q => by rw [hdecl] at q; exact q
        obtain ⟨hn, hft⟩ := pm_fit_ok hfit hv
        have hl' : k < fs'.length := by rw [pm_rs_len hf]; exact hlen
        have k1 : ∀ (H1 : Heap) (locs1 : List Loc), va_P D pm_cl (ws.set k2 (a', .inr (ci, fs'.set k w))) H1 → va_D A (ws.set k2 (a', .inr (ci, fs'.set k w))) → va_S A H0 H1 locs1 → W p l e R s m args below meth c H1 locs1 cells slots Q (F0 m (pc + 3) ls r') := fun H1 locs1 hP1 hD1 hS1 => kk H1 locs1 _ _ hP1 hD1 hS1 (hw.set he ⟨_, rfl, pm_rs_set hv hf⟩) hr
        rcases hq with ⟨rfl, hfin, q⟩ | ⟨rfl, hfin, q⟩ | ⟨rfl, hfin, q⟩ | ⟨rfl, q⟩
        · exact va_put hx hb hts hin (pm_fty ci) hty hnm hown hK hP hD hS k2 he hcl k hk (hts _ q) hsame hfin (hty k hk) hn hft hl' hd k1
        · exact va_putN hx hb hts hin (pm_fty ci) hty hnm hown hK hP hD hS k2 he hcl k hk ((hN.1 _ q rfl).use rfl) hsame hfin (hty k hk) hn hft hl' hd k1
        · rcases hkind with h9 | h9 | ⟨-, h9, h10⟩
          · cases h9
          · cases h9
          · have hown2 : (F k).1 = pm_ow (pm_cn T) := by
              rw [hdecl]
              have := pm_ow_cl hcl
              rw [h10] at this
              exact this.symm
            exact va_putF hx hb hts hin (pm_fty ci) hty hnm hown hK hP hD hS k2 he hcl k hk (hts _ q) hsame hfin (hini h9) hown2 (hty k hk) hn hft hl' hd k1
        · rcases hkind with h9 | h9 | ⟨h9, -, -⟩ <;> cases h9
      · cases h
    · cases h
  case iastore =>
    obtain ⟨⟨v, r0⟩, h0, h⟩ := Option.bind_eq_some_iff.mp h
    obtain ⟨⟨i, r⟩, h1, h⟩ := Option.bind_eq_some_iff.mp h
    obtain ⟨⟨a, r2⟩, h2, h⟩ := Option.bind_eq_some_iff.mp h
    obtain ⟨⟨n, f⟩, h3, h⟩ := Option.bind_eq_some_iff.mp h
    obtain ⟨j, h4, h⟩ := Option.bind_eq_some_iff.mp h
    cases h
    obtain rfl := pm_i1_ok h0
    obtain ⟨r9, rfl, hs9⟩ := pm_rs_i hs
    obtain rfl := pm_i1_ok h1
    obtain ⟨r1, rfl, hr⟩ := pm_rs_i hs9
    obtain rfl := pm_r1_ok h2
    obtain ⟨a', r', ha, rfl, hr'⟩ := pm_rs_r hr
    obtain ⟨hin, rfl⟩ := pm_ix_ok h4
    obtain ⟨e', he, hc⟩ := hw.at (pm_ia_ok h3) ha
    obtain ⟨cA, rfl, q1, q2⟩ := hc
    exact va_iast hx hb (pm_K1 hK q1 q2) hP hD hS a 0 he rfl hin hd (fun H1 locs1 hP1 hD1 hS1 => kk H1 locs1 _ _ hP1 hD1 hS1 (hw.set he ⟨cA, rfl, q1, q2⟩) hr')
  case bastore =>
    obtain ⟨⟨v, r0⟩, h0, h⟩ := Option.bind_eq_some_iff.mp h
    obtain ⟨⟨i, r⟩, h1, h⟩ := Option.bind_eq_some_iff.mp h
    obtain ⟨⟨a, r2⟩, h2, h⟩ := Option.bind_eq_some_iff.mp h
    obtain ⟨⟨n, f⟩, h3, h⟩ := Option.bind_eq_some_iff.mp h
    obtain ⟨j, h4, h⟩ := Option.bind_eq_some_iff.mp h
    cases h
    obtain rfl := pm_i1_ok h0
    obtain ⟨r9, rfl, hs9⟩ := pm_rs_i hs
    obtain rfl := pm_i1_ok h1
    obtain ⟨r1, rfl, hr⟩ := pm_rs_i hs9
    obtain rfl := pm_r1_ok h2
    obtain ⟨a', r', ha, rfl, hr'⟩ := pm_rs_r hr
    obtain ⟨hin, rfl⟩ := pm_ix_ok h4
    obtain ⟨e', he, hc⟩ := hw.at (pm_ia_ok h3) ha
    obtain ⟨cA, rfl, q1, q2⟩ := hc
    exact va_zast hx hb (pm_K1 hK q1 q2) hP hD hS a 0 he rfl hin hd (fun H1 locs1 hP1 hD1 hS1 => kk H1 locs1 _ _ hP1 hD1 hS1 (hw.set he ⟨cA, rfl, q1, q2⟩) hr')
  case lastore =>
    obtain ⟨⟨v, r0⟩, h0, h⟩ := Option.bind_eq_some_iff.mp h
    obtain ⟨⟨i, r⟩, h1, h⟩ := Option.bind_eq_some_iff.mp h
    obtain ⟨⟨a, r2⟩, h2, h⟩ := Option.bind_eq_some_iff.mp h
    obtain ⟨⟨n, f⟩, h3, h⟩ := Option.bind_eq_some_iff.mp h
    obtain ⟨j, h4, h⟩ := Option.bind_eq_some_iff.mp h
    cases h
    obtain rfl := pm_l1_ok h0
    obtain ⟨r9, rfl, hs9⟩ := pm_rs_l hs
    obtain rfl := pm_i1_ok h1
    obtain ⟨r1, rfl, hr⟩ := pm_rs_i hs9
    obtain rfl := pm_r1_ok h2
    obtain ⟨a', r', ha, rfl, hr'⟩ := pm_rs_r hr
    obtain ⟨hin, rfl⟩ := pm_ix_ok h4
    obtain ⟨e', he, hc⟩ := hw.at (pm_la_ok h3) ha
    obtain ⟨cA, rfl, q1, q2⟩ := hc
    exact va_last hx hb (pm_K1 hK q1 q2) hP hD hS a 0 he rfl hin hd (fun H1 locs1 hP1 hD1 hS1 => kk H1 locs1 _ _ hP1 hD1 hS1 (hw.set he ⟨cA, rfl, q1, q2⟩) hr')
  case aastore =>
    obtain ⟨⟨v, r0⟩, h0, h⟩ := Option.bind_eq_some_iff.mp h
    obtain ⟨⟨i, r⟩, h1, h⟩ := Option.bind_eq_some_iff.mp h
    obtain ⟨⟨a, r2⟩, h2, h⟩ := Option.bind_eq_some_iff.mp h
    obtain ⟨⟨n, f⟩, h3, h⟩ := Option.bind_eq_some_iff.mp h
    obtain ⟨j, h4, h⟩ := Option.bind_eq_some_iff.mp h
    obtain ⟨fs, h5, h⟩ := Option.bind_eq_some_iff.mp h
    cases h
    obtain rfl := pm_r1_ok h0
    obtain ⟨v', r9, hva, rfl, hs9⟩ := pm_rs_r hs
    obtain rfl := pm_i1_ok h1
    obtain ⟨r1, rfl, hr⟩ := pm_rs_i hs9
    obtain rfl := pm_r1_ok h2
    obtain ⟨a', r', ha, rfl, hr'⟩ := pm_rs_r hr
    obtain ⟨hin, rfl⟩ := pm_ix_ok h4
    obtain ⟨e', he, hc⟩ := hw.at (pm_ra_ok h3) ha
    obtain ⟨cA, g, rfl, hg, q1, q2⟩ := hc
    obtain ⟨e9, he9, hc9⟩ := hw.at (pm_ob_ok h5) hva
    obtain ⟨fs9, rfl, -⟩ := hc9
    have hro : ∀ j9, pm_ro ad (va_up f i.toNatClampNeg (some v) j9) (va_up g i.toNatClampNeg (some v') j9) := by
      intro j9
      unfold va_up
      split
      · exact ⟨v', hva, rfl⟩
      · exact hg j9
    exact va_astq (r := ("LambdaShelf$Code", pm_F1, 3)) hx hb (pm_K1 hK q1 q2) hP hD hS a 0 v pm_cC he rfl he9 rfl hin hd (fun H1 locs1 hP1 hD1 hS1 => kk H1 locs1 _ _ hP1 hD1 hS1 (hw.set he ⟨cA, _, rfl, hro, q1, q2⟩) hr')
  all_goals exact nomatch (show (none : Option (List Value × Nat × va_E)) = some (st2, k2, e2) from h)
theorem pm_nw_ok (hx : p.tables.exec = Jvm.exec) (hb : c.code = cc) (hown : s.vm.findClass (pm_ow (pm_cn T)) = some m.cls) (hts : ∀ w ∈ pm_tb, w.before args s = true) (hN : pm_Nn s) (hK : va_K D pm_cl [] s) (hP : va_P D pm_cl ws H) (hD : va_D A ws) (hS : va_S A H0 H locs) (hA : ∀ q, H0.size ≤ q → A q) (hw : pm_rw bS ad s ph ws)
    {i : Instr} {st st2 stA : List Value} {n2 : Nat} {e2 : va_E} (h : pm_nw T i st = some (st2, e2, n2)) (hd : decode cc pc = .ok (i, pm_len i)) (hs : pm_rs bS ad st stA) (hcells : cells + 1 ≤ R.cells) (hslots : slots + n2 ≤ R.slots)
    (kk : ∀ (q : Nat) (H1 : Heap) (ws1 : va_W) (stA2 : List Value), va_P D pm_cl ws1 H1 → va_D A ws1 → va_S A H0 H1 locs → pm_rw bS (ad ++ [q]) s (ph ++ [e2]) ws1 → pm_rs bS (ad ++ [q]) (.ref ph.length :: st2) stA2 → W p l e R s m args below meth c H1 locs (cells + 1) (slots + n2) Q (F0 m (pc + pm_len i) ls stA2)) : W p l e R s m args below meth c H locs cells slots Q (F0 m pc ls stA) := by
  cases i
  case new idx =>
    obtain ⟨⟨ci, ps⟩, h1, h⟩ := Option.bind_eq_some_iff.mp h
    obtain ⟨fs, h2, h⟩ := Option.bind_eq_some_iff.mp h
    cases h
    have hck := pm_nr_ok h1
    unfold pm_nck at hck
    dsimp only at hck
    cases hcl : pm_cl[ci]? with
    | none => rw [hcl] at hck; cases hck
    | some r =>
      obtain ⟨C, F, N⟩ := r
      rw [hcl] at hck
      obtain ⟨hty, hnm, hin, hinst, hini, fs0, hf1, hf2, hf3⟩ := pm_cl_ok hcl
      try dsimp only at h2 hf1 hf2 hf3
      rw [hf1] at h2
      cases h2
      try dsimp only at hf2
      rw [hf2] at hslots kk
      exact va_new hx hb hts hin (pm_fty ci) hty hown (hts _ (pm_at_good hck rfl)) (hts _ hinst) (hts _ hini) hK hP hD hS hA hcl hf3 hcells hslots hd (fun q H1 hP1 hD1 hS1 => kk q H1 _ _ hP1 hD1 hS1 (hw.push ⟨_, rfl, pm_dfs_flat hf1⟩) ⟨⟨q, hw.new q, rfl⟩, hs.mono⟩)
  case newarray ty =>
    cases ty
    case int =>
      obtain ⟨⟨n, r⟩, h1, h⟩ := Option.bind_eq_some_iff.mp h
      dsimp only at h
      split at h
      · cases h
      · rename_i hc
        cases h
        obtain rfl := pm_i1_ok h1
        obtain ⟨r1, rfl, hr⟩ := pm_rs_i hs
        exact va_newa (ty := .int) (a0 := (n.toNatClampNeg, .inl (fun _ => 0))) hx hb (hts _ (pm_arr_ok (a := .int) List.mem_cons_self)) rfl hK hP hD hS hA (fun cA => rfl) (fun q => hc (Or.inl q)) rfl (by show _ * 4 ≤ _; omega) hcells hslots hd (fun q cA H1 hK1 hP1 hD1 hS1 => kk q H1 _ _ hP1 hD1 hS1 (hw.push ⟨cA, rfl, (hK1.2 0 _ rfl).1, (hK1.2 0 _ rfl).2⟩) ⟨⟨q, hw.new q, rfl⟩, hr.mono⟩)
    case boolean =>
      obtain ⟨⟨n, r⟩, h1, h⟩ := Option.bind_eq_some_iff.mp h
      dsimp only at h
      split at h
      · cases h
      · rename_i hc
        cases h
        obtain rfl := pm_i1_ok h1
        obtain ⟨r1, rfl, hr⟩ := pm_rs_i hs
        exact va_newa (ty := .boolean) (a0 := (n.toNatClampNeg, .inl (fun _ => 0))) hx hb (hts _ (pm_arr_ok (a := .boolean) (List.mem_cons_of_mem _ List.mem_cons_self))) rfl hK hP hD hS hA (fun cA => rfl) (fun q => hc (Or.inl q)) rfl (by show _ * 1 ≤ _; omega) hcells hslots hd (fun q cA H1 hK1 hP1 hD1 hS1 => kk q H1 _ _ hP1 hD1 hS1 (hw.push ⟨cA, rfl, (hK1.2 0 _ rfl).1, (hK1.2 0 _ rfl).2⟩) ⟨⟨q, hw.new q, rfl⟩, hr.mono⟩)
    case long =>
      obtain ⟨⟨n, r⟩, h1, h⟩ := Option.bind_eq_some_iff.mp h
      dsimp only at h
      split at h
      · cases h
      · rename_i hc
        cases h
        obtain rfl := pm_i1_ok h1
        obtain ⟨r1, rfl, hr⟩ := pm_rs_i hs
        exact va_newa (ty := .long) (a0 := (n.toNatClampNeg, .inr (.inl (fun _ => 0)))) hx hb (hts _ (pm_arr_ok (a := .long) (List.mem_cons_of_mem _ (List.mem_cons_of_mem _ List.mem_cons_self)))) rfl hK hP hD hS hA (fun cA => rfl) (fun q => hc (Or.inl q)) rfl (by show _ * 8 ≤ _; omega) hcells hslots hd (fun q cA H1 hK1 hP1 hD1 hS1 => kk q H1 _ _ hP1 hD1 hS1 (hw.push ⟨cA, rfl, (hK1.2 0 _ rfl).1, (hK1.2 0 _ rfl).2⟩) ⟨⟨q, hw.new q, rfl⟩, hr.mono⟩)
    all_goals exact nomatch (show (none : Option (List Value × va_E × Nat)) = some (st2, e2, n2) from h)
  case anewarray idx =>
    obtain ⟨ps, h0, h⟩ := Option.bind_eq_some_iff.mp h
    obtain ⟨⟨n, r⟩, h1, h⟩ := Option.bind_eq_some_iff.mp h
    dsimp only at h
    split at h
    · cases h
    · rename_i hc
      cases h
      obtain rfl := pm_i1_ok h1
      obtain ⟨r1, rfl, hr⟩ := pm_rs_i hs
      exact va_newq hx hb hown (hts _ (List.mem_filter.mpr ⟨pm_ar_ok h0, rfl⟩)) hN.2 hK hP hD hS hA (fun q => hc (Or.inl q)) rfl (by omega) hcells hslots hd (fun q cA H1 hK1 hP1 hD1 hS1 => kk q H1 _ _ hP1 hD1 hS1 (hw.push ⟨cA, _, rfl, fun j => rfl, (hK1.2 0 _ rfl).1, (hK1.2 0 _ rfl).2⟩) ⟨⟨q, hw.new q, rfl⟩, hr.mono⟩)
  all_goals exact nomatch (show (none : Option (List Value × va_E × Nat)) = some (st2, e2, n2) from h)
end PMWR
