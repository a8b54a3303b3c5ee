/-! THE TABLES HOLD: by evaluation -/
def pm_tb : List Cond := lw_tbl.filter goodWord
def pm_at (p : Nat) (w : Cond) : Bool := decide (lw_tbl[p]? = some w)
theorem pm_at_mem {p : Nat} {w : Cond} (h : pm_at p w = true) : w ∈ lw_tbl := List.mem_of_getElem? (of_decide_eq_true h)
theorem pm_at_good {p : Nat} {w : Cond} (h : pm_at p w = true) (hg : goodWord w = true) : w ∈ pm_tb := List.mem_filter.mpr ⟨pm_at_mem h, hg⟩
def pm_fck (own : String) (q : Nat × Nat × Nat × Nat × Nat) : Bool := match pm_cl[q.2.1]? with
  | some c => decide (q.2.2.1 < c.2.2) && decide ((c.2.1 q.2.2.1).1 = c.1) && (match q.2.2.2.1 with
    | 0 => decide ((c.2.1 q.2.2.1).2.2.2 = false) && pm_at q.2.2.2.2 (.fieldLink own q.1 c.1 (c.2.1 q.2.2.1).2.1 (c.2.1 q.2.2.1).2.2.1)
    | 1 => decide ((c.2.1 q.2.2.1).2.2.2 = false) && pm_at q.2.2.2.2 (.fieldLinkNest own q.1 c.1 (c.2.1 q.2.2.1).2.1 (c.2.1 q.2.2.1).2.2.1 "LambdaShelf")
    | 2 => decide ((c.2.1 q.2.2.1).2.2.2 = true) && pm_at q.2.2.2.2 (.fieldLink own q.1 c.1 (c.2.1 q.2.2.1).2.1 (c.2.1 q.2.2.1).2.2.1)
    | 3 => decide ((c.2.1 q.2.2.1).2.2.2 = true) && pm_at q.2.2.2.2 (.fieldLinkNest own q.1 c.1 (c.2.1 q.2.2.1).2.1 (c.2.1 q.2.2.1).2.2.1 "LambdaShelf")
    | _ => false)
  | none => false
theorem pm_fls_ok : pm_fls.all (fun z => z.2.all (pm_fck z.1)) = true := by decide +kernel
def pm_mck (own : String) (q : Nat × Nat × Nat × Nat × Nat × Nat) : Bool := match q.2.1 with
  | 4 => pm_at q.2.2.2.1 (.methodLink own q.1 Lib.objectInit) && pm_at q.2.2.2.2.1 (.instanceMethod Lib.objectInit) && pm_at q.2.2.2.2.2 (.code Lib.objectInit ⟨#[0xb1]⟩ 1 none)
  | 5 => pm_at q.2.2.2.1 (.methodLink own q.1 Lib.Math.max.name) && pm_at q.2.2.2.2.1 (.static Lib.Math.max.name) && pm_at q.2.2.2.2.2 (.code Lib.Math.max.name Lib.Math.max.code 2 (some .int))
  | 6 => pm_at q.2.2.2.1 (.methodLink own q.1 Lib.Math.min.name) && pm_at q.2.2.2.2.1 (.static Lib.Math.min.name) && pm_at q.2.2.2.2.2 (.code Lib.Math.min.name Lib.Math.min.code 2 (some .int))
  | 7 => pm_at q.2.2.2.1 (.methodLink own q.1 arraycopyName) && pm_at q.2.2.2.2.1 (.static arraycopyName) && pm_at q.2.2.2.2.2 (.native arraycopyName)
  | k => match pm_tab[q.2.2.1]? with
    | some T => match k with
      | 0 => pm_at q.2.2.2.1 (.methodLink own q.1 (pm_nm T)) && pm_at q.2.2.2.2.1 (.instanceMethod (pm_nm T)) && pm_at q.2.2.2.2.2 (.selects (pm_nm T).cls (pm_nm T) (pm_nm T)) && decide ((pm_cl.getD (pm_cn T) ("", pm_F0, 0)).1 = (pm_nm T).cls)
      | 1 => pm_at q.2.2.2.1 (.methodLink own q.1 (pm_nm T)) && pm_at q.2.2.2.2.1 (.instanceMethod (pm_nm T)) && decide ((pm_nm T).name = "<init>") && decide (pm_re T = none)
      | 2 => pm_at q.2.2.2.1 (.methodLinkNest own q.1 (pm_nm T) "LambdaShelf") && pm_at q.2.2.2.2.1 (.instanceMethod (pm_nm T)) && decide ((pm_nm T).name = "<init>") && decide (pm_re T = none)
      | 3 => pm_at q.2.2.2.1 (.methodLink own q.1 (pm_nm T)) && pm_at q.2.2.2.2.1 (.static (pm_nm T))
      | 8 => pm_at q.2.2.2.1 (.methodLink own q.1 (pm_nm T)) && pm_at q.2.2.2.2.1 (.instanceMethod (pm_nm T)) && pm_at q.2.2.2.2.2 (.selects (pm_nm T).cls (pm_nm T) (pm_nm T)) && decide ((pm_nm T).cls = "java/lang/String")
      | _ => false
    | none => false
theorem pm_mls_ok : pm_mls.all (fun z => z.2.all (pm_mck z.1)) = true := by decide +kernel
def pm_nck (own : String) (q : Nat × Nat × Nat) : Bool := match pm_cl[q.2.1]? with
  | some c => pm_at q.2.2 (.classLink own q.1 c.1)
  | none => false
theorem pm_nls_ok : pm_nls.all (fun z => z.2.all (pm_nck z.1)) = true := by decide +kernel
theorem pm_als_ok : pm_als.all (fun z => z.2.all (fun q => pm_at q.2 (.classLink z.1 q.1 "LambdaShelf$Code"))) = true := by decide +kernel
theorem pm_lls_ok : pm_lls.all (fun z => z.2.all (fun q => pm_at q.2.2 (.constantLong z.1 q.1 q.2.1))) = true := by decide +kernel
def pm_sck (own : String) (q : Nat × Nat × Nat) : Bool := match q.2.1 with
  | 0 => pm_at q.2.2 (.fieldLink own q.1 "java/lang/String" "value" "[B")
  | 1 => pm_at q.2.2 (.fieldLink own q.1 "java/lang/String" "coder" "B")
  | 2 => pm_at q.2.2 (.fieldLink own q.1 "java/lang/String" "COMPACT_STRINGS" "Z")
  | 3 => pm_at q.2.2 (.fieldLink own q.1 "jdk/internal/util/Preconditions" "SIOOBE_FORMATTER" "Ljava/util/function/BiFunction;")
  | 4 => decide (own = "LambdaShelf$Reader") && decide (q.1 = pm_iR)
  | 5 => decide (own = "LambdaShelf$Teller") && decide (q.1 = pm_iT)
  | _ => false
theorem pm_sls_ok : pm_sls.all (fun z => z.2.all (pm_sck z.1)) = true := by decide +kernel
theorem pm_ows_ok : pm_fls.map (fun z => z.1) = pm_mls.map (fun z => z.1) ∧ pm_fls.map (fun z => z.1) = pm_nls.map (fun z => z.1) ∧ pm_fls.map (fun z => z.1) = pm_als.map (fun z => z.1) ∧ pm_fls.map (fun z => z.1) = pm_lls.map (fun z => z.1) := by decide +kernel
theorem pm_ows_s : pm_fls.map (fun z => z.1) = pm_sls.map (fun z => z.1) := by decide +kernel
theorem pm_ini_ok : pm_at 126 (.initialized "java/lang/Math") = true ∧ pm_at 137 (.initialized "java/lang/System") = true ∧ pm_at 165 (.arrayOver (.object "LambdaShelf$Code")) = true := by decide +kernel
theorem pm_arp_ok : pm_arp.all (fun q => pm_at q.2 (.arrayClass (newarray.typeOf q.1))) = true := by decide +kernel
def pm_tck (T : pm_M) : Bool := decide (pm_ow (pm_cn T) = (pm_nm T).cls) && (!(pm_ini T) || decide ((pm_nm T).name = "<init>")) && (decide (pm_ps T = 0) || (pm_at (pm_cwp.getD (pm_cn T) ([], 0, 0)).2.2 (.initialized (pm_nm T).cls) && plainName (pm_nm T).cls && decide ((pm_nm T).cls ≠ "java/lang/invoke/MethodHandle") && decide ((pm_nm T).cls ≠ "java/lang/invoke/VarHandle") && decide ((parseMethodDescriptor (pm_nm T).desc).map (fun d => d.parameters.length) = some (pm_na T)) && decide (pm_ml T ≤ 21)))
def pm_dck (T : pm_M) : Bool := (pm_cd T).all (fun q => decide (decode (pm_by T) q.1 = .ok q.2) && (pm_isw q.2.1 || decide (q.2.2 = pm_len q.2.1)))
def pm_cck (ci : Nat) (ps : List Nat × Nat × Nat) : Bool := match pm_cl[ci]?, pm_dfs[ci]? with
  | some c, some fs => (List.range c.2.2).all (fun k => decide (parseFieldDescriptor (c.2.1 k).2.2.1 = some (pm_fty ci k)) && pm_at (ps.1.getD k 0) (u_lay c.1 c.2.1 k) && decide (defaultValue (pm_fty ci k) = vp_V fs k) && (List.range c.2.2).all (fun j => decide (j = k) || decide ((c.2.1 k).2.1 ≠ (c.2.1 j).2.1))) && pm_at ps.2.1 (.instantiable c.1 c.2.2) && pm_at ps.2.2 (.initialized c.1) && decide (fs.length = c.2.2)
  | _, _ => false
theorem pm_cck_ok : (List.range pm_cl.length).all (fun ci => pm_cck ci (pm_cwp.getD ci ([], 0, 0))) = true := by decide +kernel
