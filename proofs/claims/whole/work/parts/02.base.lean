/-! the words that last: every method's contract takes them all -/
/-- private methods of the builder's class above, on a builder: shown at the law's start -/
def xs_sel : List Cond := [Cond.selects R_SB y_A_ensureCapacityInternal y_A_ensureCapacityInternal, Cond.selects R_SB y_A_newCapacity y_A_newCapacity, Cond.selects R_SB y_A_putStringAt y_A_putStringAt, Cond.selects R_SB y_A_inflateIfNeededFor y_A_inflateIfNeededFor]
def tk : List Cond := (lw_tbl ++ xs_sel).filter (fun w => k2_isCode w || goodWord w)
theorem tk_good : GoodIn tk tk := by
  intro w hw
  refine ⟨hw, ?_⟩
  have h1 := (List.mem_filter.mp hw).2
  simp only [Bool.or_eq_true] at h1
  rcases h1 with hc | hg
  · cases w <;> first | (simp [k2_isCode] at hc; done) | exact Or.inl rfl
  · exact good_of_word hg
theorem tk_of {w : Cond} (h : w ∈ lw_tbl) (hg : (k2_isCode w || goodWord w) = true) : w ∈ tk := List.mem_filter.mpr ⟨List.mem_append_left _ h, hg⟩
theorem tk_x {w : Cond} (h : w ∈ xs_sel) (hg : (k2_isCode w || goodWord w) = true) : w ∈ tk := List.mem_filter.mpr ⟨List.mem_append_right _ h, hg⟩
abbrev wk (y : MethodName) (b : ByteArray) (n : Nat) (ret : Option FieldType) : List Cond := Cond.code y b n ret :: tk
theorem tk_in {y : MethodName} {b : ByteArray} {n : Nat} {ret : Option FieldType} (h : Cond.code y b n ret ∈ tk) : GoodIn tk (wk y b n ret) := by
  intro w hw
  rcases List.mem_cons.mp hw with rfl | hw
  · exact tk_good _ h
  · exact tk_good _ hw
/-! links between nest mates: they are carried by each contract's start -/
def nw_is : Cond → Bool
  | .methodLinkNest .. => true
  | .fieldLinkNest .. => true
  | _ => false
def nw_l : List Cond := lw_tbl.filter nw_is
def Nst (U : State) : Prop := ∀ w ∈ nw_l, va_Nw w U
theorem nw_on {w : Cond} (h : w ∈ nw_l) : w.onTables = true := by
  have h1 := (List.mem_filter.mp h).2
  cases w <;> first | rfl | (simp [nw_is] at h1; done)
theorem Nst.warm {s U : State} (hW : s.WarmedH U.vm) (h : Nst s) : Nst U := by
  intro w hw
  have h1 := (List.mem_filter.mp hw).2
  have h2 := h w hw
  cases w <;> first | exact va_Nw.warmM hW h2 | exact va_Nw.warmF hW h2 | (simp [nw_is] at h1; done)
theorem Nst.same {u U : State} (hv : u.vm = U.vm) (h : Nst u) : Nst U := fun w hw => va_Nw.same (nw_on hw) hv (h w hw)
theorem nw_of {w : Cond} (h : w ∈ lw_tbl) (hg : nw_is w = true) : w ∈ nw_l := List.mem_filter.mpr ⟨h, hg⟩
theorem Nst.call {U : State} {g : JFrame} {mk : MethodId} {a : Array Value} (h : Nst U) : Nst (U.calling g mk a) := Nst.same (u := U) rfl h
/-- what the tables say of a method that is called -/
def ck (y : MethodName) (b : ByteArray) (n : Nat) (ret : Option FieldType) (k : Nat) (kind : Cond) : Prop :=
  Cond.code y b n ret ∈ tk ∧ kind ∈ tk ∧ Cond.initialized y.cls ∈ tk ∧ (y.cls ≠ "java/lang/invoke/MethodHandle" ∧ y.cls ≠ "java/lang/invoke/VarHandle" ∧ (parseMethodDescriptor y.desc).map (fun d => d.parameters.length) = some k)
/-- a method that reads and writes no cell, and answers an int -/
def pmI (l : Launch) (y : MethodName) (b : ByteArray) (n : Nat) (rt : FieldType) (fr lo : Nat) (As : List Value) (post : Int32 → Prop) : Prop :=
  Met l y (wk y b n (some rt)) ({ frames := fr, cells := 0, slots := 0, locals := lo }) (va_Pc As Nst) (vp_Si post) 0 0 (fun _ => False)
/-- .. a long -/
def pmL (l : Launch) (y : MethodName) (b : ByteArray) (n : Nat) (fr lo : Nat) (As : List Value) (post : Int64 → Prop) : Prop :=
  Met l y (wk y b n (some .long)) ({ frames := fr, cells := 0, slots := 0, locals := lo }) (va_Pc As Nst) (vp_Sl post) 0 0 (fun _ => False)
theorem nst_blind {As : List Value} : FrameBlind (va_Pc As Nst) := fun _ _ _ _ q => ⟨q.1, q.2.call⟩
section BS
variable {p : Program} {l : Launch} {e : Env} {R : Room} {s : State} {m : MethodId} {args : Array Value} {below : List Frame} {meth : Method} {c : Code} {H : Heap} {locs : List Loc} {cells slots : Nat} {Q : State → Prop}
variable {cc b : ByteArray} {pc nL n fr lo index : Nat} {ls : Array Slot} {rest st0 As : List Value} {y : MethodName} {rt : FieldType} {post : Int32 → Prop} {postL : Int64 → Prop} {own host C : String}
theorem run_of {mc ms : Nat} {g : JFrame} {Qa : State → Outcome → State → Prop} {free : Addr → Prop} (h : va_Run p l e R s m args below meth c H locs cells slots mc ms g rest Qa free) : CallRun p l e R s m args below meth c H locs cells slots mc ms g rest Qa free := fun T hT X => by
  obtain ⟨v, st₀, t, T', L, h0, h1, h2, h3, _, h5, h6⟩ := h T hT X
  exact ⟨v, st₀, t, T', L, h0, h1, h2, h3, h5, h6⟩
theorem pm_call (hF : CallFix p m c cc nL s args tk own) (hN : Nst s) (hM : pmI l y b n rt fr lo As post) (k : ck y b n (some rt) As.length (.static y)) (hl : Cond.methodLink own index y ∈ tk)
    (hR : fr + 1 ≤ R.frames ∧ 8 + (n + 11) + lo ≤ R.locals) (hst : st0 = As.reverse ++ rest) (hsz : ls.size = nL) (hW : (rest.map fun v => v.category).sum ≤ 8) (hdg : decode cc pc = .ok (.invokestatic index, 3)) (hf : cells ≤ R.cells ∧ slots ≤ R.slots)
    (kk : ∀ r : Int32, post r → W p l e R s m args below meth c H locs cells slots Q (F0 m (pc + 3) ls (.int r :: rest))) : W p l e R s m args below meth c H locs cells slots Q (F0 m pc ls st0) :=
  vp_callSi (W.runS hF hM ⟨callB_of As.length hF.2.2.2.2 (tk_in k.1) rfl rfl rfl (hF.2.2.2.2 _ k.2.2.1) (hF.2.2.2.2 _ hl) k.2.2.2 hR, hF.2.2.2.2 _ k.2.1⟩ ⟨nst_blind, fun _ _ hW => ⟨rfl, hN.warm hW⟩⟩ rfl rfl hsz hst (lv_room hW) hdg hf) kk
theorem pm_callN (hF : CallFix p m c cc nL s args tk own) (hN : Nst s) (hM : pmI l y b n rt fr lo As post) (k : ck y b n (some rt) As.length (.static y)) (hl : Cond.methodLinkNest own index y host ∈ nw_l)
    (hR : fr + 1 ≤ R.frames ∧ 8 + (n + 11) + lo ≤ R.locals) (hst : st0 = As.reverse ++ rest) (hsz : ls.size = nL) (hW : (rest.map fun v => v.category).sum ≤ 8) (hdg : decode cc pc = .ok (.invokestatic index, 3)) (hf : cells ≤ R.cells ∧ slots ≤ R.slots)
    (kk : ∀ r : Int32, post r → W p l e R s m args below meth c H locs cells slots Q (F0 m (pc + 3) ls (.int r :: rest))) : W p l e R s m args below meth c H locs cells slots Q (F0 m pc ls st0) :=
  vp_callSi (run_of (va_runSN hF hM ⟨va_cnB As.length hF.2.2.2.2 (tk_in k.1) rfl rfl rfl (hN _ hl) (hF.2.2.2.2 _ k.2.2.1) k.2.2.2 hR, hF.2.2.2.2 _ k.2.1, trivial⟩ ⟨nst_blind, fun _ _ hW => ⟨rfl, hN.warm hW⟩⟩ rfl rfl hsz hst (lv_room hW) hdg hf)) kk
theorem pm_callV {a : Nat} (hF : CallFix p m c cc nL s args tk own) (hN : Nst s) (hM : pmI l y b n rt fr lo (.ref a :: As) post) (k : ck y b n (some rt) As.length (.instanceMethod y)) (hl : Cond.methodLink own index y ∈ tk) (hse : Cond.selects y.cls y y ∈ tk)
    (hc : ∃ cell : Cell, H[a]? = some cell ∧ cell.vm.isStatics = false ∧ s.vm.findClass y.cls = some cell.cls)
    (hR : fr + 1 ≤ R.frames ∧ 8 + (n + 11) + lo ≤ R.locals) (hst : st0 = As.reverse ++ .ref a :: rest) (hsz : ls.size = nL) (hW : (rest.map fun v => v.category).sum ≤ 8) (hdg : decode cc pc = .ok (.invokevirtual index, 3)) (hf : cells ≤ R.cells ∧ slots ≤ R.slots)
    (kk : ∀ r : Int32, post r → W p l e R s m args below meth c H locs cells slots Q (F0 m (pc + 3) ls (.int r :: rest))) : W p l e R s m args below meth c H locs cells slots Q (F0 m pc ls st0) :=
  vp_callSi (W.runV hF hM ⟨callB_of As.length hF.2.2.2.2 (tk_in k.1) rfl rfl rfl (hF.2.2.2.2 _ k.2.2.1) (hF.2.2.2.2 _ hl) k.2.2.2 hR, hF.2.2.2.2 _ k.2.1, hF.2.2.2.2 _ hse⟩ ⟨nst_blind, hc, fun _ _ hW => ⟨rfl, hN.warm hW⟩⟩ rfl rfl hsz hst (lv_room hW) hdg hf) kk
theorem pm_callE {v : Int32} (hF : CallFix p m c cc nL s args tk own) (hN : Nst s) (hM : pmI l y b n rt fr lo As (fun r => r = v)) (k : ck y b n (some rt) As.length (.static y)) (hl : Cond.methodLink own index y ∈ tk)
    (hR : fr + 1 ≤ R.frames ∧ 8 + (n + 11) + lo ≤ R.locals) (hst : st0 = As.reverse ++ rest) (hsz : ls.size = nL) (hW : (rest.map fun v => v.category).sum ≤ 8) (hdg : decode cc pc = .ok (.invokestatic index, 3)) (hf : cells ≤ R.cells ∧ slots ≤ R.slots)
    (kk : W p l e R s m args below meth c H locs cells slots Q (F0 m (pc + 3) ls (.int v :: rest))) : W p l e R s m args below meth c H locs cells slots Q (F0 m pc ls st0) :=
  pm_call hF hN hM k hl hR hst hsz hW hdg hf (fun r er => by rw [er]; exact kk)
theorem pm_callNE {v : Int32} (hF : CallFix p m c cc nL s args tk own) (hN : Nst s) (hM : pmI l y b n rt fr lo As (fun r => r = v)) (k : ck y b n (some rt) As.length (.static y)) (hl : Cond.methodLinkNest own index y host ∈ nw_l)
    (hR : fr + 1 ≤ R.frames ∧ 8 + (n + 11) + lo ≤ R.locals) (hst : st0 = As.reverse ++ rest) (hsz : ls.size = nL) (hW : (rest.map fun v => v.category).sum ≤ 8) (hdg : decode cc pc = .ok (.invokestatic index, 3)) (hf : cells ≤ R.cells ∧ slots ≤ R.slots)
    (kk : W p l e R s m args below meth c H locs cells slots Q (F0 m (pc + 3) ls (.int v :: rest))) : W p l e R s m args below meth c H locs cells slots Q (F0 m pc ls st0) :=
  pm_callN hF hN hM k hl hR hst hsz hW hdg hf (fun r er => by rw [er]; exact kk)
theorem pm_callVE {v : Int32} {a : Nat} (hF : CallFix p m c cc nL s args tk own) (hN : Nst s) (hM : pmI l y b n rt fr lo (.ref a :: As) (fun r => r = v)) (k : ck y b n (some rt) As.length (.instanceMethod y)) (hl : Cond.methodLink own index y ∈ tk) (hse : Cond.selects y.cls y y ∈ tk)
    (hc : ∃ cell : Cell, H[a]? = some cell ∧ cell.vm.isStatics = false ∧ s.vm.findClass y.cls = some cell.cls)
    (hR : fr + 1 ≤ R.frames ∧ 8 + (n + 11) + lo ≤ R.locals) (hst : st0 = As.reverse ++ .ref a :: rest) (hsz : ls.size = nL) (hW : (rest.map fun v => v.category).sum ≤ 8) (hdg : decode cc pc = .ok (.invokevirtual index, 3)) (hf : cells ≤ R.cells ∧ slots ≤ R.slots)
    (kk : W p l e R s m args below meth c H locs cells slots Q (F0 m (pc + 3) ls (.int v :: rest))) : W p l e R s m args below meth c H locs cells slots Q (F0 m pc ls st0) :=
  pm_callV hF hN hM k hl hse hc hR hst hsz hW hdg hf (fun r er => by rw [er]; exact kk)
theorem pm_of (hy : plainName y.cls = true) (hlen : (lg_sl As).length ≤ n)
    (body : ∀ (p : Program) (e : Env) (s : State) (m : MethodId) (below : List Frame) (meth : Method) (c : Code) (ls : Array Slot), p.tables.exec = Jvm.exec → c.code = b → CallFix p m c b n s As.toArray tk y.cls → meth.sig.returnType = some rt → meth.locks = false → Nst s → lv_has ls n (lv_args 0 As) →
      W p l e ({ frames := fr, cells := 0, slots := 0, locals := lo }) s m As.toArray below meth c s.heap [] 0 0 (MQ below (vp_Si post) As.toArray s 0 0 (fun _ => False)) (F0 m 0 ls [])) : pmI l y b n rt fr lo As post := by
  refine Met.ofW (cc := b) (maxL := n) (ret := some rt) hy rfl ?_
  intro p e s m args below meth c s₁ B hml hv
  obtain ⟨rfl, hN⟩ := hv
  have hts := atoms_spec (ws := wk y b n (some rt)) B.pre
  have hl := lv_entry As (n := n) hlen
  rw [lg_entry_eq]
  exact body p e s m below meth c _ B.exec B.bytes ⟨B.exec, B.bytes, hml, findClass_of_methodNamed B.named, fun w hw => hts w (List.mem_cons_of_mem _ hw)⟩ B.returns B.notSynchronized hN hl
theorem pl_of (hy : plainName y.cls = true) (hlen : (lg_sl As).length ≤ n)
    (body : ∀ (p : Program) (e : Env) (s : State) (m : MethodId) (below : List Frame) (meth : Method) (c : Code) (ls : Array Slot), p.tables.exec = Jvm.exec → c.code = b → CallFix p m c b n s As.toArray tk y.cls → meth.sig.returnType = some .long → meth.locks = false → Nst s → lv_has ls n (lv_args 0 As) →
      W p l e ({ frames := fr, cells := 0, slots := 0, locals := lo }) s m As.toArray below meth c s.heap [] 0 0 (MQ below (vp_Sl postL) As.toArray s 0 0 (fun _ => False)) (F0 m 0 ls [])) : pmL l y b n fr lo As postL := by
  refine Met.ofW (cc := b) (maxL := n) (ret := some .long) hy rfl ?_
  intro p e s m args below meth c s₁ B hml hv
  obtain ⟨rfl, hN⟩ := hv
  have hts := atoms_spec (ws := wk y b n (some .long)) B.pre
  have hl := lv_entry As (n := n) hlen
  rw [lg_entry_eq]
  exact body p e s m below meth c _ B.exec B.bytes ⟨B.exec, B.bytes, hml, findClass_of_methodNamed B.named, fun w hw => hts w (List.mem_cons_of_mem _ hw)⟩ B.returns B.notSynchronized hN hl
theorem pm_ret {v : Int32} (hx : p.tables.exec = Jvm.exec) (hb : c.code = b) (hr : meth.sig.returnType = some rt) (hlk : meth.locks = false) (hn : narrow rt (.int v) = .int v) (hp : post v) (hdg : decode b pc = .ok (.ireturn, 1)) :
    W p l e R s m args below meth c s.heap [] 0 0 (MQ below (vp_Si post) args s 0 0 (fun _ => False)) (F0 m pc ls [.int v]) :=
  W.zret hx hb hr hn (fun _ ht _ => ⟨v, rfl, hp, ht⟩) (fun _ h => absurd h List.not_mem_nil) hdg hlk
theorem pl_ret {v : Int64} (hx : p.tables.exec = Jvm.exec) (hb : c.code = b) (hr : meth.sig.returnType = some .long) (hlk : meth.locks = false) (hp : postL v) (hdg : decode b pc = .ok (.lreturn, 1)) :
    W p l e R s m args below meth c s.heap [] 0 0 (MQ below (vp_Sl postL) args s 0 0 (fun _ => False)) (F0 m pc ls [.long v]) :=
  W.lret hx hb hr (fun _ ht _ => ⟨v, rfl, hp, ht⟩) (fun _ h => absurd h List.not_mem_nil) hdg hlk
end BS
theorem nar_z {v : Int32} (h : v = 0 ∨ v = 1) : narrow .boolean (.int v) = .int v := by
  rcases h with rfl | rfl <;> decide
theorem nar_i (v : Int32) : narrow .int (.int v) = .int v := vp_nar_int v
theorem z_ite {c : Prop} [Decidable c] {a b : Int32} (ha : a = 0 ∨ a = 1) (hb : b = 0 ∨ b = 1) : (if c then a else b) = 0 ∨ (if c then a else b) = 1 := by
  by_cases h : c
  · rw [if_pos h]; exact ha
  · rw [if_neg h]; exact hb
