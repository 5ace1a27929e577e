def F_P : u_T := fun k => match k with
  | 0 => ("ClassProbe", "held", "[I", true)
  | 1 => ("ClassProbe", "script", "LClassProbe$Script;", true)
  | _ => ("ClassProbe", "query", "LClassProbe$Query;", true)
def t_P : Nat → FieldType := fun k => match k with
  | 0 => .array .int
  | 1 => .object "ClassProbe$Script"
  | _ => .object "ClassProbe$Query"
theorem n_P : ∀ a, a < 3 → ∀ b, b < 3 → a ≠ b → (F_P a).2.1 ≠ (F_P b).2.1 := by decide +kernel
theorem t_P_ok : ∀ k, k < 3 → parseFieldDescriptor (F_P k).2.2.1 = some (t_P k) := by decide +kernel
theorem in_P : ∀ w ∈ u_ws R_P F_P 3, w ∈ tk := by decide +kernel
def F_S : u_T := fun k => match k with
  | _ => ("ClassProbe$Script", "row", "Ljava/lang/StringBuilder;", true)
def t_S : Nat → FieldType := fun k => match k with
  | _ => .object "java/lang/StringBuilder"
theorem n_S : ∀ a, a < 1 → ∀ b, b < 1 → a ≠ b → (F_S a).2.1 ≠ (F_S b).2.1 := by decide +kernel
theorem t_S_ok : ∀ k, k < 1 → parseFieldDescriptor (F_S k).2.2.1 = some (t_S k) := by decide +kernel
theorem in_S : ∀ w ∈ u_ws R_S F_S 1, w ∈ tk := by decide +kernel
def F_Q : u_T := fun k => match k with
  | _ => ("ClassProbe$Query", "text", "Ljava/lang/StringBuilder;", true)
def t_Q : Nat → FieldType := fun k => match k with
  | _ => .object "java/lang/StringBuilder"
theorem n_Q : ∀ a, a < 1 → ∀ b, b < 1 → a ≠ b → (F_Q a).2.1 ≠ (F_Q b).2.1 := by decide +kernel
theorem t_Q_ok : ∀ k, k < 1 → parseFieldDescriptor (F_Q k).2.2.1 = some (t_Q k) := by decide +kernel
theorem in_Q : ∀ w ∈ u_ws R_Q F_Q 1, w ∈ tk := by decide +kernel
def F_SB : u_T := fun k => match k with
  | 0 => ("java/lang/AbstractStringBuilder", "value", "[B", false)
  | 1 => ("java/lang/AbstractStringBuilder", "coder", "B", false)
  | 2 => ("java/lang/AbstractStringBuilder", "maybeLatin1", "Z", false)
  | _ => ("java/lang/AbstractStringBuilder", "count", "I", false)
def t_SB : Nat → FieldType := fun k => match k with
  | 0 => .array .byte
  | 1 => .byte
  | 2 => .boolean
  | _ => .int
theorem n_SB : ∀ a, a < 4 → ∀ b, b < 4 → a ≠ b → (F_SB a).2.1 ≠ (F_SB b).2.1 := by decide +kernel
theorem t_SB_ok : ∀ k, k < 4 → parseFieldDescriptor (F_SB k).2.2.1 = some (t_SB k) := by decide +kernel
theorem in_SB : ∀ w ∈ u_ws R_SB F_SB 4, w ∈ tk := by decide +kernel
def F_M : u_T := fun k => match k with
  | 0 => ("ClassProbeModel", "made", "[I", true)
  | 1 => ("ClassProbeModel", "size", "I", false)
  | 2 => ("ClassProbeModel", "text", "[I", true)
  | 3 => ("ClassProbeModel", "length", "I", false)
  | 4 => ("ClassProbeModel", "held", "[I", true)
  | 5 => ("ClassProbeModel", "thing", "[I", true)
  | _ => ("ClassProbeModel", "things", "I", false)
def t_M : Nat → FieldType := fun k => match k with
  | 0 => .array .int
  | 1 => .int
  | 2 => .array .int
  | 3 => .int
  | 4 => .array .int
  | 5 => .array .int
  | _ => .int
theorem n_M : ∀ a, a < 7 → ∀ b, b < 7 → a ≠ b → (F_M a).2.1 ≠ (F_M b).2.1 := by decide +kernel
theorem t_M_ok : ∀ k, k < 7 → parseFieldDescriptor (F_M k).2.2.1 = some (t_M k) := by decide +kernel
theorem in_M : ∀ w ∈ u_ws R_M F_M 7, w ∈ tk := by decide +kernel
abbrev classes : List vw_C := [(R_P, F_P, 3), (R_S, F_S, 1), (R_Q, F_Q, 1), (R_SB, F_SB, 4), (R_M, F_M, 7)]
def li : List (String × Nat × String) := [("ClassProbe$Script", 94, "ZBCSIJFDV"), ("ClassProbe$Bench", 18, "boolean"), ("ClassProbe$Bench", 20, "byte"), ("ClassProbe$Bench", 22, "char"), ("ClassProbe$Bench", 24, "short"), ("ClassProbe$Bench", 26, "int"), ("ClassProbe$Bench", 28, "long"), ("ClassProbe$Bench", 30, "float"), ("ClassProbe$Bench", 32, "double"), ("ClassProbe$Bench", 34, "void"), ("ClassProbe$Bench", 36, "java.lang.Object"), ("ClassProbe$Bench", 38, "java.lang.Runnable"), ("ClassProbe$Bench", 40, "ClassProbe"), ("ClassProbe$Bench", 41, "ClassProbe$Mark"), ("ClassProbe$Bench", 43, "ClassProbe$Shape"), ("ClassProbe$Bench", 45, "ClassProbe$Circle"), ("ClassProbe$Bench", 47, "ClassProbe$Square"), ("ClassProbe$Bench", 49, "ClassProbe$Color"), ("ClassProbe$Bench", 51, "ClassProbe$Color$1"), ("ClassProbe$Bench", 53, "ClassProbe$Inner"), ("ClassProbe$Bench", 55, "ClassProbe$Inner$Deep"), ("ClassProbe$Bench", 57, "ClassProbe$Note"), ("ClassProbe$Bench", 59, "ClassProbe$Box"), ("ClassProbe$Bench", 61, "ClassProbe$Tall"), ("ClassProbe$Bench", 63, "ClassProbe$1Local"), ("ClassProbe$Bench", 65, "ClassProbe$1"), ("ClassProbe$Bench", 67, ""), ("ClassProbe$Script", 100, "[]"), ("ClassProbe$Script", 65, "java.lang"), ("ClassProbe$Script", 67, ""), ("ClassProbe$Script", 105, "interface "), ("ClassProbe$Script", 107, "class "), ("ClassProbe$Script", 109, "public"), ("ClassProbe$Script", 115, "protected"), ("ClassProbe$Script", 117, "private"), ("ClassProbe$Script", 119, "abstract"), ("ClassProbe$Script", 121, "static"), ("ClassProbe$Script", 123, "final"), ("ClassProbe$Script", 125, "interface"), ("ClassProbe$Query", 66, "ClassProbe$"), ("ClassProbe$Query", 68, "ZBCSIJFDV")]
def li_tab : List (List Nat) := [[90, 66, 67, 83, 73, 74, 70, 68, 86], [98, 111, 111, 108, 101, 97, 110], [98, 121, 116, 101], [99, 104, 97, 114], [115, 104, 111, 114, 116], [105, 110, 116], [108, 111, 110, 103], [102, 108, 111, 97, 116], [100, 111, 117, 98, 108, 101], [118, 111, 105, 100], [106, 97, 118, 97, 46, 108, 97, 110, 103, 46, 79, 98, 106, 101, 99, 116], [106, 97, 118, 97, 46, 108, 97, 110, 103, 46, 82, 117, 110, 110, 97, 98, 108, 101], [67, 108, 97, 115, 115, 80, 114, 111, 98, 101], [67, 108, 97, 115, 115, 80, 114, 111, 98, 101, 36, 77, 97, 114, 107], [67, 108, 97, 115, 115, 80, 114, 111, 98, 101, 36, 83, 104, 97, 112, 101], [67, 108, 97, 115, 115, 80, 114, 111, 98, 101, 36, 67, 105, 114, 99, 108, 101], [67, 108, 97, 115, 115, 80, 114, 111, 98, 101, 36, 83, 113, 117, 97, 114, 101], [67, 108, 97, 115, 115, 80, 114, 111, 98, 101, 36, 67, 111, 108, 111, 114], [67, 108, 97, 115, 115, 80, 114, 111, 98, 101, 36, 67, 111, 108, 111, 114, 36, 49], [67, 108, 97, 115, 115, 80, 114, 111, 98, 101, 36, 73, 110, 110, 101, 114], [67, 108, 97, 115, 115, 80, 114, 111, 98, 101, 36, 73, 110, 110, 101, 114, 36, 68, 101, 101, 112], [67, 108, 97, 115, 115, 80, 114, 111, 98, 101, 36, 78, 111, 116, 101], [67, 108, 97, 115, 115, 80, 114, 111, 98, 101, 36, 66, 111, 120], [67, 108, 97, 115, 115, 80, 114, 111, 98, 101, 36, 84, 97, 108, 108], [67, 108, 97, 115, 115, 80, 114, 111, 98, 101, 36, 49, 76, 111, 99, 97, 108], [67, 108, 97, 115, 115, 80, 114, 111, 98, 101, 36, 49], [], [91, 93], [106, 97, 118, 97, 46, 108, 97, 110, 103], [], [105, 110, 116, 101, 114, 102, 97, 99, 101, 32], [99, 108, 97, 115, 115, 32], [112, 117, 98, 108, 105, 99], [112, 114, 111, 116, 101, 99, 116, 101, 100], [112, 114, 105, 118, 97, 116, 101], [97, 98, 115, 116, 114, 97, 99, 116], [115, 116, 97, 116, 105, 99], [102, 105, 110, 97, 108], [105, 110, 116, 101, 114, 102, 97, 99, 101], [67, 108, 97, 115, 115, 80, 114, 111, 98, 101, 36], [90, 66, 67, 83, 73, 74, 70, 68, 86]]
def li_x (i : Nat) : List Nat := li_tab.getD i []
def li_c (i j : Nat) : Int32 := nI ((li_x i).getD j 0)
/-- the literals are where they are -/
def Ls (adK : Nat → Nat) (U : State) : Prop := ∀ (i : Nat) (q : String × Nat × String), li[i]? = some q → vk_R q.1 q.2.1 q.2.2 (adK i) U
/-- the literals' cells -/
def kS (adK adV : Nat → Nat) (A : Nat → Prop) (U : State) (H : Heap) : Prop := ∀ i : Nat, i < 41 → va_O "java/lang/String" (adK i) A U H ∧ va_OF "java/lang/String" "coder" "B" (.int 0) (adK i) A U H ∧ va_OF "java/lang/String" "value" "[B" (.ref (adV i)) (adK i) A U H ∧ va_T .byte (adV i) (li_x i).length (fun j => .int (li_c i j)) A U H
theorem kS.moved {adK adV : Nat → Nat} {A : Nat → Prop} {u U : State} {H : Heap} (hvm : u.vm.Alike U.vm) (h : kS adK adV A u H) : kS adK adV A U H := fun i hi => ⟨(h i hi).1.moved hvm, (h i hi).2.1.moved hvm, (h i hi).2.2.1.moved hvm, (h i hi).2.2.2.moved hvm⟩
theorem kS.kept {adK adV : Nat → Nat} {A : Nat → Prop} {U : State} {H H1 : Heap} (h : kS adK adV A U H) (hq : ∀ a : Nat, a < H.size → ¬ A a → H1[a]? = H[a]?) : kS adK adV A U H1 := fun i hi => ⟨(h i hi).1.kept hq, (h i hi).2.1.kept hq, (h i hi).2.2.1.kept hq, (h i hi).2.2.2.kept hq⟩
theorem kS.narrow {adK adV : Nat → Nat} {A B : Nat → Prop} {U : State} {H : Heap} (h : kS adK adV A U H) (hAB : ∀ q, B q → A q) : kS adK adV B U H := fun i hi => ⟨(h i hi).1.narrow hAB, (h i hi).2.1.narrow hAB, (h i hi).2.2.1.narrow hAB, (h i hi).2.2.2.narrow hAB⟩
/-- what stays the same over a whole run: class numbers and slots, the class numbers of int[] and byte[], the literals' addresses -/
abbrev gT : Type := va_G × ClassId × ClassId × (Nat → Nat) × (Nat → Nat)
abbrev gD (g : gT) : va_G := g.1
abbrev gI (g : gT) : ClassId := g.2.1
abbrev gB (g : gT) : ClassId := g.2.2.1
abbrev gK (g : gT) : Nat → Nat := g.2.2.2.1
abbrev gV (g : gT) : Nat → Nat := g.2.2.2.2
abbrev gTy (g : gT) : List (ClassId × FieldType) := [(gI g, .int), (gB g, .byte)]
def Gx (g : gT) (A : Nat → Prop) (U : State) (H : Heap) : Prop := Nst U ∧ va_K (gD g) classes (gTy g) U ∧ Ls (gK g) U ∧ kS (gK g) (gV g) A U H ∧ va_Z "java/lang/String" "COMPACT_STRINGS" "Z" (.int 1) A U H ∧ va_Zq "jdk/internal/util/Preconditions" "SIOOBE_FORMATTER" "Ljava/util/function/BiFunction;" A U H
theorem Gx.call {g : gT} {A : Nat → Prop} {U : State} {H : Heap} {f : JFrame} {mk : MethodId} {a : Array Value} (h : Gx g A U H) : Gx g A (U.calling f mk a) H :=
  ⟨h.1.call, va_K.moved (u := U) (U := U.calling f mk a) (Vm.Alike.refl U.vm) h.2.1, fun i q hq => vk_R.same (u := U) rfl (h.2.2.1 i q hq), kS.moved (u := U) (U := U.calling f mk a) (Vm.Alike.refl U.vm) h.2.2.2.1, va_Z.moved (u := U) (U := U.calling f mk a) (Vm.Alike.refl U.vm) h.2.2.2.2.1, va_Zq.moved (u := U) (U := U.calling f mk a) (Vm.Alike.refl U.vm) h.2.2.2.2.2⟩
theorem Gx.down {g : gT} {A B : Nat → Prop} {s U : State} {H : Heap} {locs : List Loc} (h : Gx g A s s.heap) (hS : va_S A s.heap H locs) (hAB : ∀ q, B q → A q) (hW : s.WarmedH U.vm) : Gx g B U H :=
  ⟨h.1.warm hW, va_K.moved hW.alike h.2.1, fun i q hq => vk_R.warm hW (h.2.2.1 i q hq), ((h.2.2.2.1.kept hS.2.1).narrow hAB).moved hW.alike, ((h.2.2.2.2.1.kept hS.2.1).narrow hAB).moved hW.alike, ((h.2.2.2.2.2.kept hS.2.1).narrow hAB).moved hW.alike⟩
def Cw (g : gT) (ws : va_W) (sz : Nat) (U : State) : Prop := U.heap.size = sz ∧ va_P (gD g) classes ws U.heap ∧ va_D (fun _ => True) ws ∧ Gx g (va_A ws sz) U U.heap
theorem cw_blind {g : gT} {ws : va_W} {sz : Nat} {As : List Value} : FrameBlind (va_Pc As (Cw g ws sz)) := fun _ _ _ _ q => ⟨q.1, q.2.1, q.2.2.1, q.2.2.2.1, q.2.2.2.2.call⟩
theorem fm_of {α : Type} {f : Nat → Option α} {l : List Nat} {w : List α} (h : l.map f = w.map some) : l.filterMap f = w := by
  have h1 : l.filterMap f = (l.map f).filterMap id := by rw [List.filterMap_map]; rfl
  rw [h1, h, List.filterMap_map]
  exact List.filterMap_some
theorem cw_down {g : gT} {A : Nat → Prop} {s : State} {H : Heap} {locs : List Loc} {ws wc : va_W} (G : Gx g A s s.heap) (hP : va_P (gD g) classes ws H) (hD : va_D A ws) (hS : va_S A s.heap H locs) (hA : ∀ q, s.heap.size ≤ q → A q) (is : List Nat) (hn : va_nd is = true) (hC : is.map (fun i => ws[i]?) = wc.map some) : ∀ U : State, U.heap = H → s.WarmedH U.vm → Cw g wc H.size U := by
  intro U hU hW
  subst hU
  exact ⟨rfl, hP.sub is (fm_of hC), (hD.sub is hn hC).weaken (fun _ _ _ _ => trivial), G.down hS (va_free hD hS hA is hC) hW⟩
/-- a method's contract over a world of cells -/
def Mg (g : gT) (l : Launch) (y : MethodName) (b : ByteArray) (n : Nat) (ret : Option FieldType) (fr lo mc ms : Nat) (As : List Value) (ws : va_W) (sz : Nat) (QA : (Nat → Prop) → Array Value → State → Outcome → State → Prop) : Prop :=
  Met l y (wk y b n ret) ({ frames := fr, cells := mc, slots := ms, locals := lo }) (va_Pc As (Cw g ws sz)) (QA (va_A ws sz)) mc ms (va_A ws sz)
def qI (g : gT) (post : Int32 → va_W → Prop) (A : Nat → Prop) : Array Value → State → Outcome → State → Prop := va_Qi post (fun w1 t => va_P (gD g) classes w1 t.heap ∧ va_D A w1) A
def qV (g : gT) (post : va_W → Prop) (A : Nat → Prop) : Array Value → State → Outcome → State → Prop := va_Qv post (fun w1 t => va_P (gD g) classes w1 t.heap ∧ va_D A w1) A
def qR (g : gT) (post : Nat → va_W → Prop) (A : Nat → Prop) : Array Value → State → Outcome → State → Prop := va_Qr (S := va_W × Nat) (fun u => post u.2 u.1) (fun u a t => a = u.2 ∧ va_P (gD g) classes u.1 t.heap ∧ va_D A u.1) A
section HB
variable {p : Program} {l : Launch} {e : Env} {R : Room} {s : State} {m : MethodId} {args : Array Value} {below : List Frame} {meth : Method} {c : Code} {H : Heap} {locs : List Loc} {cells slots : Nat} {Q : State → Prop}
variable {cc b : ByteArray} {pc nL n fr lo index mc ms : Nat} {ls : Array Slot} {rest st0 As : List Value} {y : MethodName} {ret : Option FieldType} {own host C : String} {g : gT} {A : Nat → Prop} {ws wc wr : va_W} {QA : (Nat → Prop) → Array Value → State → Outcome → State → Prop} {sz : Nat}
theorem mg_of (hy : plainName y.cls = true) (hlen : (lg_sl As).length ≤ n)
    (body : ∀ (p : Program) (e : Env) (s : State) (m : MethodId) (below : List Frame) (meth : Method) (c : Code) (ls : Array Slot) (A : Nat → Prop), p.tables.exec = Jvm.exec → c.code = b → CallFix p m c b n s As.toArray tk y.cls → meth.sig.returnType = ret → meth.locks = false → meth.name = y.name → (∀ q, s.heap.size ≤ q → A q) → Gx g A s s.heap → va_P (gD g) classes ws s.heap → va_D A ws → va_S A s.heap s.heap [] → lv_has ls n (lv_args 0 As) →
      W p l e ({ frames := fr, cells := mc, slots := ms, locals := lo }) s m As.toArray below meth c s.heap [] 0 0 (MQ below (QA A) As.toArray s mc ms A) (F0 m 0 ls [])) : Mg g l y b n ret fr lo mc ms As ws sz QA := by
  refine Met.ofW (cc := b) (maxL := n) (ret := ret) hy rfl ?_
  intro p e s m args below meth c s₁ B hml hv
  obtain ⟨rfl, rfl, hP, hD, G⟩ := hv
  have hts := atoms_spec (ws := wk y b n ret) B.pre
  have hl := lv_entry As (n := n) hlen
  rw [lg_entry_eq]
  have h1 := body p e s m below meth c _ (va_A ws s.heap.size) B.exec B.bytes ⟨B.exec, B.bytes, hml, findClass_of_methodNamed B.named, fun w hw => hts w (List.mem_cons_of_mem _ hw)⟩ B.returns B.notSynchronized (name_of_methodNamed B.named B.method).1 (fun q h => Or.inr h) G hP hD.self va_S.rf hl
  exact h1
theorem run_S (hF : CallFix p m c cc nL s args tk own) (hM : Mg g l y b n ret fr lo mc ms As wc H.size QA) (k : ck y b n ret As.length (.static y)) (hl : Cond.methodLink own index y ∈ tk) (hp : ∀ U : State, U.heap = H → s.WarmedH U.vm → Cw g wc H.size U)
    (hR : fr + 1 ≤ R.frames ∧ 8 + (n + 11) + lo ≤ R.locals) (hst : st0 = As.reverse ++ rest) (hsz : ls.size = nL) (hW : (rest.map fun v => v.category).sum ≤ 8) (hdg : decode cc pc = .ok (.invokestatic index, 3)) (hf : cells + mc ≤ R.cells ∧ slots + ms ≤ R.slots) :
    va_Run p l e R s m args below meth c H locs cells slots mc ms (F0 m pc ls st0) rest (QA (va_A wc H.size) As.toArray) (va_A wc H.size) :=
  va_runS hF hM ⟨callB_of As.length hF.2.2.2.2 (tk_in k.1) rfl rfl rfl (hF.2.2.2.2 _ k.2.2.1) (hF.2.2.2.2 _ hl) k.2.2.2 hR, hF.2.2.2.2 _ k.2.1⟩ ⟨cw_blind, fun U hU hW => ⟨rfl, hp U hU hW⟩⟩ rfl rfl hsz hst (lv_room hW) hdg hf
theorem run_SN (hF : CallFix p m c cc nL s args tk own) (hN : Nst s) (hM : Mg g l y b n ret fr lo mc ms As wc H.size QA) (k : ck y b n ret As.length (.static y)) (hl : Cond.methodLinkNest own index y host ∈ nw_l) (hp : ∀ U : State, U.heap = H → s.WarmedH U.vm → Cw g wc H.size U)
    (hR : fr + 1 ≤ R.frames ∧ 8 + (n + 11) + lo ≤ R.locals) (hst : st0 = As.reverse ++ rest) (hsz : ls.size = nL) (hW : (rest.map fun v => v.category).sum ≤ 8) (hdg : decode cc pc = .ok (.invokestatic index, 3)) (hf : cells + mc ≤ R.cells ∧ slots + ms ≤ R.slots) :
    va_Run p l e R s m args below meth c H locs cells slots mc ms (F0 m pc ls st0) rest (QA (va_A wc H.size) As.toArray) (va_A wc H.size) :=
  va_runSN hF hM ⟨va_cnB As.length hF.2.2.2.2 (tk_in k.1) rfl rfl rfl (hN _ hl) (hF.2.2.2.2 _ k.2.2.1) k.2.2.2 hR, hF.2.2.2.2 _ k.2.1, trivial⟩ ⟨cw_blind, fun U hU hW => ⟨rfl, hp U hU hW⟩⟩ rfl rfl hsz hst (lv_room hW) hdg hf
theorem run_V {a : Nat} (hF : CallFix p m c cc nL s args tk own) (hM : Mg g l y b n ret fr lo mc ms (.ref a :: As) wc H.size QA) (k : ck y b n ret As.length (.instanceMethod y)) (hl : Cond.methodLink own index y ∈ tk) (hse : Cond.selects y.cls y y ∈ tk) (hc : ∃ cell : Cell, H[a]? = some cell ∧ cell.vm.isStatics = false ∧ s.vm.findClass y.cls = some cell.cls) (hp : ∀ U : State, U.heap = H → s.WarmedH U.vm → Cw g wc H.size U)
    (hR : fr + 1 ≤ R.frames ∧ 8 + (n + 11) + lo ≤ R.locals) (hst : st0 = As.reverse ++ .ref a :: rest) (hsz : ls.size = nL) (hW : (rest.map fun v => v.category).sum ≤ 8) (hdg : decode cc pc = .ok (.invokevirtual index, 3)) (hf : cells + mc ≤ R.cells ∧ slots + ms ≤ R.slots) :
    va_Run p l e R s m args below meth c H locs cells slots mc ms (F0 m pc ls st0) rest (QA (va_A wc H.size) (Value.ref a :: As).toArray) (va_A wc H.size) :=
  va_runV hF hM ⟨callB_of As.length hF.2.2.2.2 (tk_in k.1) rfl rfl rfl (hF.2.2.2.2 _ k.2.2.1) (hF.2.2.2.2 _ hl) k.2.2.2 hR, hF.2.2.2.2 _ k.2.1, hF.2.2.2.2 _ hse⟩ ⟨cw_blind, hc, fun U hU hW => ⟨rfl, hp U hU hW⟩⟩ rfl rfl hsz hst (lv_room hW) hdg hf
theorem run_VN {a : Nat} (hF : CallFix p m c cc nL s args tk own) (hN : Nst s) (hM : Mg g l y b n ret fr lo mc ms (.ref a :: As) wc H.size QA) (k : ck y b n ret As.length (.instanceMethod y)) (hl : Cond.methodLinkNest own index y host ∈ nw_l) (hse : Cond.selects y.cls y y ∈ tk) (hc : ∃ cell : Cell, H[a]? = some cell ∧ cell.vm.isStatics = false ∧ s.vm.findClass y.cls = some cell.cls) (hp : ∀ U : State, U.heap = H → s.WarmedH U.vm → Cw g wc H.size U)
    (hR : fr + 1 ≤ R.frames ∧ 8 + (n + 11) + lo ≤ R.locals) (hst : st0 = As.reverse ++ .ref a :: rest) (hsz : ls.size = nL) (hW : (rest.map fun v => v.category).sum ≤ 8) (hdg : decode cc pc = .ok (.invokevirtual index, 3)) (hf : cells + mc ≤ R.cells ∧ slots + ms ≤ R.slots) :
    va_Run p l e R s m args below meth c H locs cells slots mc ms (F0 m pc ls st0) rest (QA (va_A wc H.size) (Value.ref a :: As).toArray) (va_A wc H.size) :=
  va_runVN hF hM ⟨va_cnB As.length hF.2.2.2.2 (tk_in k.1) rfl rfl rfl (hN _ hl) (hF.2.2.2.2 _ k.2.2.1) k.2.2.2 hR, hF.2.2.2.2 _ k.2.1, hF.2.2.2.2 _ hse⟩ ⟨cw_blind, hc, fun U hU hW => ⟨rfl, hp U hU hW⟩⟩ rfl rfl hsz hst (lv_room hW) hdg hf
theorem run_I {a : Nat} (hF : CallFix p m c cc nL s args tk own) (hM : Mg g l y b n none fr lo mc ms (.ref a :: As) wc H.size QA) (k : ck y b n none As.length (.instanceMethod y)) (hl : Cond.methodLink own index y ∈ tk) (hi : y.name = "<init>") (hp : ∀ U : State, U.heap = H → s.WarmedH U.vm → Cw g wc H.size U)
    (hR : fr + 1 ≤ R.frames ∧ 8 + (n + 11) + lo ≤ R.locals) (hst : st0 = As.reverse ++ .ref a :: rest) (hsz : ls.size = nL) (hW : (rest.map fun v => v.category).sum ≤ 8) (hdg : decode cc pc = .ok (.invokespecial index, 3)) (hf : cells + mc ≤ R.cells ∧ slots + ms ≤ R.slots) :
    va_Run p l e R s m args below meth c H locs cells slots mc ms (F0 m pc ls st0) rest (QA (va_A wc H.size) (Value.ref a :: As).toArray) (va_A wc H.size) :=
  va_runI hF hM ⟨callB_of As.length hF.2.2.2.2 (tk_in k.1) rfl rfl rfl (hF.2.2.2.2 _ k.2.2.1) (hF.2.2.2.2 _ hl) k.2.2.2 hR, hi, hF.2.2.2.2 _ k.2.1⟩ ⟨cw_blind, fun U hU hW => ⟨rfl, hp U hU hW⟩⟩ rfl rfl hsz hst (lv_room hW) hdg hf
theorem run_IN {a : Nat} (hF : CallFix p m c cc nL s args tk own) (hN : Nst s) (hM : Mg g l y b n none fr lo mc ms (.ref a :: As) wc H.size QA) (k : ck y b n none As.length (.instanceMethod y)) (hl : Cond.methodLinkNest own index y host ∈ nw_l) (hi : y.name = "<init>") (hp : ∀ U : State, U.heap = H → s.WarmedH U.vm → Cw g wc H.size U)
    (hR : fr + 1 ≤ R.frames ∧ 8 + (n + 11) + lo ≤ R.locals) (hst : st0 = As.reverse ++ .ref a :: rest) (hsz : ls.size = nL) (hW : (rest.map fun v => v.category).sum ≤ 8) (hdg : decode cc pc = .ok (.invokespecial index, 3)) (hf : cells + mc ≤ R.cells ∧ slots + ms ≤ R.slots) :
    va_Run p l e R s m args below meth c H locs cells slots mc ms (F0 m pc ls st0) rest (QA (va_A wc H.size) (Value.ref a :: As).toArray) (va_A wc H.size) :=
  va_runIN hF hM ⟨va_cnB As.length hF.2.2.2.2 (tk_in k.1) rfl rfl rfl (hN _ hl) (hF.2.2.2.2 _ k.2.2.1) k.2.2.2 hR, hi, hF.2.2.2.2 _ k.2.1⟩ ⟨cw_blind, fun U hU hW => ⟨rfl, hp U hU hW⟩⟩ rfl rfl hsz hst (lv_room hW) hdg hf
/-- a method of the class above, on an object of a class below -/
theorem run_U {a : Nat} (hF : CallFix p m c cc nL s args tk own) (hM : Mg g l y b n ret fr lo mc ms (.ref a :: As) wc H.size QA) (k : ck y b n ret As.length (.instanceMethod y)) (hl : Cond.methodLink own index y ∈ tk) (hsm : Cond.sameMethod y.cls y.cls y.name y.desc ∈ tk) (hse : Cond.selects C y y ∈ tk) (hc : ∃ cell : Cell, H[a]? = some cell ∧ cell.vm.isStatics = false ∧ s.vm.findClass C = some cell.cls) (hp : ∀ U : State, U.heap = H → s.WarmedH U.vm → Cw g wc H.size U)
    (hR : fr + 1 ≤ R.frames ∧ 8 + (n + 11) + lo ≤ R.locals) (hst : st0 = As.reverse ++ .ref a :: rest) (hsz : ls.size = nL) (hW : (rest.map fun v => v.category).sum ≤ 8) (hdg : decode cc pc = .ok (.invokevirtual index, 3)) (hf : cells + mc ≤ R.cells ∧ slots + ms ≤ R.slots) :
    va_Run p l e R s m args below meth c H locs cells slots mc ms (F0 m pc ls st0) rest (QA (va_A wc H.size) (Value.ref a :: As).toArray) (va_A wc H.size) :=
  va_runU hF hM (va_cwU (C := C) (owner := y.cls) (x := y) As.length hF.2.2.2.2 (fun w hw => by
    rcases List.mem_append.mp hw with h | h
    · simp only [List.mem_cons, List.not_mem_nil, or_false] at h
      rcases h with rfl | rfl | rfl | rfl | rfl
      · exact tk_good _ hl
      · exact tk_good _ hsm
      · exact tk_good _ hse
      · exact tk_good _ k.2.1
      · exact tk_good _ k.2.2.1
    · exact tk_in k.1 w h) rfl rfl rfl rfl k.2.2.2 hR) ⟨cw_blind, hc, fun U hU hW => ⟨rfl, hp U hU hW⟩⟩ rfl rfl hsz hst (lv_room hW) hdg hf
/-- super.m(..) -/
theorem run_SU {a : Nat} {cC : ClassId} (hat : ClassAt s C cC) (hF : CallFix p m c cc nL s args tk own) (hM : Mg g l y b n ret fr lo mc ms (.ref a :: As) wc H.size QA) (k : ck y b n ret As.length (.instanceMethod y)) (hl : Cond.methodLink own index y ∈ tk) (hsm : Cond.sameMethod y.cls y.cls y.name y.desc ∈ tk) (hsu : Cond.superclass own y.cls ∈ tk) (hno : y.name ≠ "<init>") (hc : ∃ cell : Cell, H[a]? = some cell ∧ cell.vm.isStatics = false ∧ s.vm.findClass C = some cell.cls) (hp : ∀ U : State, U.heap = H → s.WarmedH U.vm → Cw g wc H.size U)
    (hR : fr + 1 ≤ R.frames ∧ 8 + (n + 11) + lo ≤ R.locals) (hst : st0 = As.reverse ++ .ref a :: rest) (hsz : ls.size = nL) (hW : (rest.map fun v => v.category).sum ≤ 8) (hdg : decode cc pc = .ok (.invokespecial index, 3)) (hf : cells + mc ≤ R.cells ∧ slots + ms ≤ R.slots) :
    va_Run p l e R s m args below meth c H locs cells slots mc ms (F0 m pc ls st0) rest (QA (va_A wc H.size) (Value.ref a :: As).toArray) (va_A wc H.size) :=
  va_runSU hat hF hM (va_cwSU As.length hF.2.2.2.2 (fun w hw => by
    rcases List.mem_append.mp hw with h | h
    · simp only [List.mem_cons, List.not_mem_nil, or_false] at h
      rcases h with rfl | rfl | rfl | rfl | rfl
      · exact tk_good _ hl
      · exact tk_good _ hsm
      · exact tk_good _ hsu
      · exact tk_good _ k.2.1
      · exact tk_good _ k.2.2.1
    · exact tk_in k.1 w h) rfl rfl rfl ⟨hno, k.2.2.2.2.2⟩ hR) ⟨cw_blind, hc, fun U hU hW => ⟨rfl, hp U hU hW⟩⟩ rfl rfl hsz hst (lv_room hW) hdg hf
theorem go_i {a : Array Value} {post : Int32 → va_W → Prop} (run : va_Run p l e R s m args below meth c H locs cells slots mc ms (F0 m pc ls st0) rest (qI g post (va_A wc H.size) a) (va_A wc H.size)) (hP : va_P (gD g) classes ws H) (hD : va_D A ws) (hS : va_S A s.heap H locs) (hA : ∀ q, s.heap.size ≤ q → A q) (isC isR : List Nat) (hC : isC.map (fun i => ws[i]?) = wc.map some) (hR : isR.map (fun i => ws[i]?) = wr.map some) (hn : va_nd isR = true) (hdis : ∀ i ∈ isR, i ∉ isC)
    (kk : ∀ (r : Int32) (w1 : va_W) (H1 : Heap) (locs1 : List Loc), post r w1 → va_P (gD g) classes (wr ++ w1) H1 → va_D A (wr ++ w1) → va_S A s.heap H1 locs1 → W p l e R s m args below meth c H1 locs1 (cells + mc) (slots + ms) Q (F0 m (pc + 3) ls (.int r :: rest))) : W p l e R s m args below meth c H locs cells slots Q (F0 m pc ls st0) := by
  have hFc := va_free hD hS hA isC hC
  refine va_calli run hS (fun q _ h => hFc q h) hFc (fun r w1 t H1 locs1 ht _ hw hB _ hk1 hS1 => ?_)
  obtain ⟨hP1, hD1⟩ := hB
  rw [ht] at hP1
  obtain ⟨hP2, hD2⟩ := va_join hP hD isC isR hC hR hn hdis hk1 hFc hP1 hD1
  exact kk r w1 H1 locs1 hw hP2 hD2 hS1
theorem go_v {a : Array Value} {post : va_W → Prop} (run : va_Run p l e R s m args below meth c H locs cells slots mc ms (F0 m pc ls st0) rest (qV g post (va_A wc H.size) a) (va_A wc H.size)) (hP : va_P (gD g) classes ws H) (hD : va_D A ws) (hS : va_S A s.heap H locs) (hA : ∀ q, s.heap.size ≤ q → A q) (isC isR : List Nat) (hC : isC.map (fun i => ws[i]?) = wc.map some) (hR : isR.map (fun i => ws[i]?) = wr.map some) (hn : va_nd isR = true) (hdis : ∀ i ∈ isR, i ∉ isC)
    (kk : ∀ (w1 : va_W) (H1 : Heap) (locs1 : List Loc), post w1 → va_P (gD g) classes (wr ++ w1) H1 → va_D A (wr ++ w1) → va_S A s.heap H1 locs1 → W p l e R s m args below meth c H1 locs1 (cells + mc) (slots + ms) Q (F0 m (pc + 3) ls rest)) : W p l e R s m args below meth c H locs cells slots Q (F0 m pc ls st0) := by
  have hFc := va_free hD hS hA isC hC
  refine va_callv run hS (fun q _ h => hFc q h) hFc (fun w1 t H1 locs1 ht _ hw hB _ hk1 hS1 => ?_)
  obtain ⟨hP1, hD1⟩ := hB
  rw [ht] at hP1
  obtain ⟨hP2, hD2⟩ := va_join hP hD isC isR hC hR hn hdis hk1 hFc hP1 hD1
  exact kk w1 H1 locs1 hw hP2 hD2 hS1
theorem go_r {a : Array Value} {post : Nat → va_W → Prop} (run : va_Run p l e R s m args below meth c H locs cells slots mc ms (F0 m pc ls st0) rest (qR g post (va_A wc H.size) a) (va_A wc H.size)) (hP : va_P (gD g) classes ws H) (hD : va_D A ws) (hS : va_S A s.heap H locs) (hA : ∀ q, s.heap.size ≤ q → A q) (isC isR : List Nat) (hC : isC.map (fun i => ws[i]?) = wc.map some) (hR : isR.map (fun i => ws[i]?) = wr.map some) (hn : va_nd isR = true) (hdis : ∀ i ∈ isR, i ∉ isC)
    (kk : ∀ (r : Nat) (w1 : va_W) (H1 : Heap) (locs1 : List Loc), post r w1 → va_P (gD g) classes (wr ++ w1) H1 → va_D A (wr ++ w1) → va_S A s.heap H1 locs1 → W p l e R s m args below meth c H1 locs1 (cells + mc) (slots + ms) Q (F0 m (pc + 3) ls (.ref r :: rest))) : W p l e R s m args below meth c H locs cells slots Q (F0 m pc ls st0) := by
  have hFc := va_free hD hS hA isC hC
  refine va_callr run hS (fun q _ h => hFc q h) hFc (fun u ra t H1 locs1 ht _ hw hB _ hk1 hS1 => ?_)
  obtain ⟨w1, r⟩ := u
  obtain ⟨rfl, hP1, hD1⟩ := hB
  rw [ht] at hP1
  obtain ⟨hP2, hD2⟩ := va_join hP hD isC isR hC hR hn hdis hk1 hFc hP1 hD1
  exact kk _ w1 H1 locs1 hw hP2 hD2 hS1
theorem ret_i {rt : FieldType} {post : Int32 → va_W → Prop} {v : Int32} {w1 : va_W} (hx : p.tables.exec = Jvm.exec) (hb : c.code = b) (hr : meth.sig.returnType = some rt) (hlk : meth.locks = false) (hP : va_P (gD g) classes w1 H) (hD : va_D A w1) (hS : va_S A s.heap H locs) (hn : narrow rt (.int v) = .int v) (hp : post v w1) (hc : cells ≤ mc) (hs : slots ≤ ms) (hdg : decode b pc = .ok (.ireturn, 1)) :
    W p l e R s m args below meth c H locs cells slots (MQ below (qI g post A) args s mc ms A) (F0 m pc ls [.int v]) :=
  W.widen hc hs (W.zret hx hb hr hn (fun _ ht _ => ⟨⟨v, w1, rfl, hp, by rw [ht]; exact hP, hD⟩, hS.F ht⟩) hS.2.2 hdg hlk)
theorem ret_v {post : va_W → Prop} {w1 : va_W} (hx : p.tables.exec = Jvm.exec) (hb : c.code = b) (hr : meth.sig.returnType = none) (hlk : meth.locks = false) (hP : va_P (gD g) classes w1 H) (hD : va_D A w1) (hS : va_S A s.heap H locs) (hp : post w1) (hc : cells ≤ mc) (hs : slots ≤ ms) (hdg : decode b pc = .ok (.return_, 1)) :
    W p l e R s m args below meth c H locs cells slots (MQ below (qV g post A) args s mc ms A) (F0 m pc ls []) :=
  W.widen hc hs (W.vret hx hb hr (fun _ ht _ => ⟨⟨w1, rfl, hp, by rw [ht]; exact hP, hD⟩, hS.F ht⟩) hS.2.2 hdg hlk)
theorem ret_r {rt : FieldType} {post : Nat → va_W → Prop} {v : Nat} {w1 : va_W} (hx : p.tables.exec = Jvm.exec) (hb : c.code = b) (hr : meth.sig.returnType = some rt) (hrt : (∃ n, rt = .object n) ∨ ∃ t, rt = .array t) (hlk : meth.locks = false) (hP : va_P (gD g) classes w1 H) (hD : va_D A w1) (hS : va_S A s.heap H locs) (hp : post v w1) (hc : cells ≤ mc) (hs : slots ≤ ms) (hdg : decode b pc = .ok (.areturn, 1)) :
    W p l e R s m args below meth c H locs cells slots (MQ below (qR g post A) args s mc ms A) (F0 m pc ls [.ref v]) :=
  W.widen hc hs (W.aret hx hb hr hrt (Or.inr ⟨v, rfl⟩) (fun _ ht _ => ⟨⟨(w1, v), v, rfl, hp, rfl, by rw [ht]; exact hP, hD⟩, hS.F ht⟩) hS.2.2 hdg hlk)
end HB
theorem cA_int {g : gT} {cA : ClassId} {s : State} (h : va_K (gD g) classes (gTy g ++ [(cA, .int)]) s) : cA = gI g := by
  have h1 := (h.2 0 _ rfl).2
  have h2 := (h.2 2 _ rfl).2
  exact Option.some.inj (h2.symm.trans h1)
theorem cA_byte {g : gT} {cA : ClassId} {s : State} (h : va_K (gD g) classes (gTy g ++ [(cA, .byte)]) s) : cA = gB g := by
  have h1 := (h.2 1 _ rfl).2
  have h2 := (h.2 2 _ rfl).2
  exact Option.some.inj (h2.symm.trans h1)
