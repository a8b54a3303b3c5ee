/-! THE PURE MACHINE, 7: it is sound -/
theorem pm_PC_blind {bS : Nat → Nat} {D : va_G} {ws : va_W} {ad : List Nat} {ph : List va_E} {sz : Nat} {asA : List Value} : FrameBlind (va_Pc asA (pm_PC bS D ws ad ph sz)) := fun a U g mk q => by
  obtain ⟨q0, q1, qP, qK, qD, qN, qw, qZ⟩ := q
  exact ⟨q0, q1, qP, va_K.moved (u := U) (U := U.calling g mk a) (Vm.Alike.refl U.vm) qK, qD, pm_Nn.same (u := U) (U := U.calling g mk a) rfl qN, pm_rw.moved (u := U) (U := U.calling g mk a) (Vm.Alike.refl U.vm) qw, pm_Z.same (u := U) (U := U.calling g mk a) rfl qZ⟩
theorem pm_PC_pre {bS : Nat → Nat} {D : va_G} {ws : va_W} {ad : List Nat} {ph : List va_E} {asA : List Value} {s : State} {H : Heap} {A : Nat → Prop} (hP : va_P D pm_cl ws H) (hK : va_K D pm_cl [] s) (hD : va_D A ws) (hN : pm_Nn s) (hw : pm_rw bS ad s ph ws) (hZ : pm_Z bS (va_A ws H.size) s H) : ∀ U : State, U.heap = H → s.WarmedH U.vm → va_Pc asA (pm_PC bS D ws ad ph H.size) asA.toArray U :=
  fun U hU hW => ⟨rfl, by rw [hU], by rw [hU]; exact hP, va_K.moved hW.alike hK, hD.weaken (fun _ _ _ _ => trivial), pm_Nn.warm hW hN, hw.moved hW.alike, by rw [hU]; exact hZ.warm hW⟩
theorem pm_goodIn {T : pm_M} (h : Cond.code (pm_nm T) (pm_by T) (pm_ml T) (pm_re T) ∈ pm_tb) : GoodIn pm_tb (pm_wd T) := by
  intro w hw
  rcases List.mem_cons.mp hw with rfl | hw
  · exact ⟨h, Or.inl rfl⟩
  · exact ⟨hw, good_of_word (List.mem_filter.mp hw).2⟩
theorem pm_nfw : nativeFrameWords "java/lang/System" "arraycopy" 5 = 7 := by decide +kernel
section PMSND
variable {p : Program} {l : Launch} {e : Env} {R : Room} {s : State} {m : MethodId} {args : Array Value} {below : List Frame} {meth : Method} {c : Code} {H : Heap} {locs : List Loc} {cells slots : Nat} {Q : State → Prop}
variable {cc : ByteArray} {pc nL : Nat} {ls : Array Slot} {bS : Nat → Nat} {ad : List Nat} {D : va_G} {A : Nat → Prop} {H0 : Heap} {ws : va_W} {ph : List va_E} {T : pm_M}
theorem pm_callk {mc ms : Nat} {st0 rest : List Value} {v : Option Value} {ph2 : List va_E} {a : Array Value} (hr : va_Run p l e R s m args below meth c H locs cells slots mc ms (F0 m pc ls st0) rest (pm_QC bS D ws ad H.size v ph2 a) (va_A ws H.size)) (hS : va_S A H0 H locs) (hA : ∀ q, va_A ws H.size q → A q)
    (kk : ∀ (vA : Option Value) (ad2 : List Nat) (ws2 : va_W) (H1 : Heap) (locs1 : List Loc), pm_rov bS (ad ++ ad2) v vA → pm_rw bS (ad ++ ad2) s ph2 ws2 → va_P D pm_cl ws2 H1 → va_D A ws2 → va_S A H0 H1 locs1 → W p l e R s m args below meth c H1 locs1 (cells + mc) (slots + ms) Q (F0 m (pc + 3) ls (vA.toList ++ rest))) : W p l e R s m args below meth c H locs cells slots Q (F0 m pc ls st0) := by
  intro T hT X
  obtain ⟨v', st₀, t, T', L, h0, X', hL, e1, e2, ⟨⟨vA, ad2, ws2, hv, h1, h2, h3, h4⟩, hz, hk⟩, st⟩ := hr T hT X
  cases hv
  rw [h0] at hz hk
  have hal : s.vm.Alike t.vm := by rw [← e2]; exact X'.warmed.alike
  obtain ⟨t2, a1, b1⟩ := kk v' ad2 ws2 T'.heap (locs ++ L) h1 (h2.moved hal.symm) (by rw [e1]; exact h3) (h4.weaken (fun _ _ _ z => hA _ z))
    ⟨Nat.le_trans hS.1 (by rw [e1]; exact hz), fun q h1 h2 => by rw [e1, hk q (Nat.lt_of_lt_of_le h1 hS.1) (fun z => h2 (hA q z))]; exact hS.2.1 q h1 h2, fun q hq => by
      rcases List.mem_append.mp hq with h | h
      · exact hS.2.2 q h
      · exact hA _ (hL q h)⟩ T' rfl X'
  exact ⟨t2, st t2 a1, b1⟩
theorem pm_nat_ok (hx : p.tables.exec = Jvm.exec) (hb : c.code = cc) (hml : c.maxLocals = ls.size) (hown : s.vm.findClass (pm_ow (pm_cn T)) = some m.cls) (hts : ∀ w ∈ pm_tb, w.before args s = true) (hfr : 1 ≤ R.frames) (hlo : 40 ≤ R.locals) (hce : cells ≤ R.cells) (hsl : slots ≤ R.slots)
    {i : Instr} {st st2 stA : List Value} (h : pm_nat T i st = some st2) (hd : decode cc pc = .ok (i, pm_len i)) (hs : pm_rs bS ad st stA)
    (kk : ∀ stA2 : List Value, pm_rs bS ad st2 stA2 → W p l e R s m args below meth c H locs cells slots Q (F0 m (pc + pm_len i) ls stA2)) : W p l e R s m args below meth c H locs cells slots Q (F0 m pc ls stA) := by
  cases i
  case invokestatic idx =>
    obtain ⟨⟨k, M, p1, p2, p3⟩, h1, h⟩ := Option.bind_eq_some_iff.mp h
    have hck := pm_mr_ok h1
    dsimp only at h
    unfold pm_mx at h
    split at h
    · rename_i y x r
      obtain ⟨r0, rfl, h0⟩ := pm_rs_i hs
      obtain ⟨r1, rfl, hr1⟩ := pm_rs_i h0
      split at h
      · rename_i hsum
        have hs1 : (r1.map fun v => v.category).sum ≤ 8 := by
          have := pm_rs_sum hr1
          unfold pm_sum at this hsum
          omega
        split at h
        · rename_i hk
          cases h
          subst hk
          replace hck : (pm_at p1 (.methodLink (pm_ow (pm_cn T)) idx Lib.Math.max.name) && pm_at p2 (.static Lib.Math.max.name) && pm_at p3 (.code Lib.Math.max.name Lib.Math.max.code 2 (some .int))) = true := hck
          simp only [Bool.and_eq_true] at hck
          exact va_mmax hx hb hml hown (hts _ (pm_at_good hck.1.1 rfl)) (hts _ (pm_at_good hck.1.2 rfl)) (hts _ (pm_at_good pm_ini_ok.1 rfl)) (hts _ (pm_at_good hck.2 rfl)) hfr (by omega) hce hsl hd (kk _ ⟨rfl, hr1⟩)
        · split at h
          · rename_i hk
            cases h
            subst hk
            replace hck : (pm_at p1 (.methodLink (pm_ow (pm_cn T)) idx Lib.Math.min.name) && pm_at p2 (.static Lib.Math.min.name) && pm_at p3 (.code Lib.Math.min.name Lib.Math.min.code 2 (some .int))) = true := hck
            simp only [Bool.and_eq_true] at hck
            exact va_mmin hx hb hml hown (hts _ (pm_at_good hck.1.1 rfl)) (hts _ (pm_at_good hck.1.2 rfl)) (hts _ (pm_at_good pm_ini_ok.1 rfl)) (hts _ (pm_at_good hck.2 rfl)) hfr (by omega) hce hsl hd (kk _ ⟨rfl, hr1⟩)
          · cases h
      · cases h
    · cases h
  case invokespecial idx =>
    obtain ⟨⟨k, M, p1, p2, p3⟩, h1, h⟩ := Option.bind_eq_some_iff.mp h
    have hck := pm_mr_ok h1
    dsimp only at h
    unfold pm_oi at h
    split at h
    · rename_i a r
      obtain ⟨a', r0, ha, rfl, h0⟩ := pm_rs_r hs
      split at h
      · rename_i hk
        obtain ⟨rfl, hsum⟩ := hk
        cases h
        have hs1 : (r0.map fun v => v.category).sum ≤ 8 := by
          have := pm_rs_sum h0
          unfold pm_sum at this hsum
          omega
        replace hck : (pm_at p1 (.methodLink (pm_ow (pm_cn T)) idx Lib.objectInit) && pm_at p2 (.instanceMethod Lib.objectInit) && pm_at p3 (.code Lib.objectInit ⟨#[0xb1]⟩ 1 none)) = true := hck
        simp only [Bool.and_eq_true] at hck
        exact W.objInit hx hb hown (hts _ (pm_at_good hck.1.1 rfl)) (hts _ (pm_at_good hck.1.2 rfl)) (hts _ (pm_at_good hck.2 rfl)) (g := F0 m pc ls (.ref a' :: r0)) rfl hml.symm rfl hd hfr (by show 2 * 0 + _ + 12 ≤ _; omega) (W.eq (g2 := F0 m (pc + 3) ls r0) rfl (kk _ h0))
      · cases h
    · cases h
  all_goals exact nomatch (show (none : Option (List Value)) = some st2 from h)
theorem pm_cpw_ok (hx : p.tables.exec = Jvm.exec) (hb : c.code = cc) (hml : c.maxLocals = ls.size) (hown : s.vm.findClass (pm_ow (pm_cn T)) = some m.cls) (hts : ∀ w ∈ pm_tb, w.before args s = true) (hfr : 1 ≤ R.frames) (hlo : 40 ≤ R.locals) (hK : va_K D pm_cl [] s) (hP : va_P D pm_cl ws H) (hD : va_D A ws) (hS : va_S A H0 H locs) (hw : pm_rw bS ad s ph ws)
    {i : Instr} {st st2 stA : List Value} {k2 : Nat} {e2 : va_E} (h : pm_cpw T i st ph = some (st2, k2, e2)) (hd : decode cc pc = .ok (i, pm_len i)) (hs : pm_rs bS ad st stA)
    (kk : ∀ (H1 : Heap) (locs1 : List Loc) (ws1 : va_W) (stA2 : List Value), va_P D pm_cl ws1 H1 → va_D A ws1 → va_S A H0 H1 locs1 → pm_rw bS ad s (ph.set k2 e2) ws1 → pm_rs bS ad st2 stA2 → W p l e R s m args below meth c H1 locs1 cells slots Q (F0 m (pc + pm_len i) ls stA2)) : W p l e R s m args below meth c H locs cells slots Q (F0 m pc ls stA) := by
  cases i
  case invokestatic idx =>
    obtain ⟨⟨k, M, p1, p2, p3⟩, h1, h⟩ := Option.bind_eq_some_iff.mp h
    have hck := pm_mr_ok h1
    dsimp only at h
    unfold pm_cp5 at h
    split at h
    · rename_i n dp a sp b r hq9
      obtain ⟨⟨n0, f0⟩, h2, h8⟩ := Option.bind_eq_some_iff.mp h
      obtain ⟨⟨n1, f1⟩, h3, h9⟩ := Option.bind_eq_some_iff.mp h8
      clear h h8
      dsimp only at h9
      split at h9
      · rename_i hc
        obtain ⟨hk7, c1, c2, c3, c4, c5, hsum⟩ := hc
        cases h9
        subst hk7
        obtain ⟨r0, rfl, s0⟩ := pm_rs_i hs
        obtain ⟨r1, rfl, s1⟩ := pm_rs_i s0
        obtain ⟨a', r2, ha, rfl, s2⟩ := pm_rs_r s1
        obtain ⟨r3, rfl, s3⟩ := pm_rs_i s2
        obtain ⟨b', r4, hb4, rfl, s4⟩ := pm_rs_r s3
        have hs1 : (r4.map fun v => v.category).sum ≤ 8 := by
          have := pm_rs_sum s4
          unfold pm_sum at this hsum
          omega
        obtain ⟨e1', he1, hc1⟩ := hw.at (pm_ia_ok h2) hb4
        obtain ⟨cB, rfl, qb1, qb2⟩ := hc1
        obtain ⟨e2', he2, hc2⟩ := hw.at (pm_ia_ok h3) ha
        obtain ⟨cA, rfl, qa1, qa2⟩ := hc2
        replace hck : (pm_at p1 (.methodLink (pm_ow (pm_cn T)) idx arraycopyName) && pm_at p2 (.static arraycopyName) && pm_at p3 (.native arraycopyName)) = true := hck
        simp only [Bool.and_eq_true] at hck
        exact va_copyi (ty := .int) hx hb hml hown (hts _ (pm_at_good hck.1.1 rfl)) (hts _ (pm_at_good hck.2 rfl)) (hts _ (pm_at_good hck.1.2 rfl)) (hts _ (pm_at_good pm_ini_ok.2.1 rfl)) (pm_K2 hK qb1 qb2 qa1 qa2) hP hD hS b k2 0 1 he1 he2 rfl rfl rfl c1 c2 c3 c4 c5 (fun _ _ => rfl) hfr (by rw [pm_nfw]; omega) hd (fun H1 locs1 hP1 hD1 hS1 => kk H1 locs1 _ _ hP1 hD1 hS1 (hw.set he2 ⟨cA, rfl, qa1, qa2⟩) s4)
      · cases h9
    · cases h
  all_goals exact nomatch (show (none : Option (List Value × Nat × va_E)) = some (st2, k2, e2) from h)
end PMSND
