theorem noif_of {C0 : String} {y0 : MethodName} {s : State} {args : Array Value} (h : (Cond.selects C0 y0 y0).before args s = true) : ∃ m0 : MethodId, s.methodNamed? y0 = some m0 ∧ (s.vm.classes[m0.cls]?).any (fun k => !k.isInterface) = true := by
  simp only [Cond.before, Cond.holds, Cond.value] at h
  cases e1 : s.vm.findClass C0 with
  | none => simp [e1] at h
  | some c0 =>
    cases e2 : s.methodFound? y0.cls y0.name y0.desc with
    | none => simp [e1, e2] at h
    | some r0 =>
      cases e3 : s.methodNamed? y0 with
      | none => simp [e1, e2, e3] at h
      | some m0 =>
        refine ⟨m0, rfl, ?_⟩
        simp only [e1, e2, e3] at h
        cases e4 : selectMethod {} s.vm c0 r0 <;> simp [e4] at h
        simpa using h.2
/-- a private method of a class above is selected on an object of a class below -/
theorem sel_priv {C C0 : String} {y y0 : MethodName} {s : State} {args : Array Value} {n : Nat} (hy : y.cls ≠ "java/lang/invoke/MethodHandle" ∧ y.cls ≠ "java/lang/invoke/VarHandle")
    (hins : (Cond.instantiable C n).before args s = true) (hpriv : (Cond.privateMethod y).before args s = true) (hinst : (Cond.instanceMethod y).before args s = true) (h0 : (Cond.selects C0 y0 y0).before args s = true) (hc0 : y0.cls = y.cls) :
    (Cond.selects C y y).before args s = true := by
  obtain ⟨c, k, hc, hk, -, hniab, -, -⟩ := Cond.instantiable_spec hins
  obtain ⟨mk, methM, hnamed, hmethM, -, -⟩ := Cond.instanceMethod_spec hinst
  obtain ⟨m0, hn0, hany⟩ := noif_of h0
  have e0 : m0.cls = mk.cls := by
    have h1 := findClass_of_methodNamed hn0
    have h2 := findClass_of_methodNamed hnamed
    rw [hc0] at h1
    exact Option.some.inj (h1.symm.trans h2)
  rw [e0] at hany
  have hfound : s.methodFound? y.cls y.name y.desc = some mk := State.methodFound?_of_named hnamed hy
  have hsel : selectMethod {} s.vm c mk = .method mk := selectMethod_private hmethM (Cond.privateMethod_at hpriv mk methM hnamed hmethM)
  simp only [Cond.before, Cond.holds, Cond.value, hc, hfound, hnamed, hsel, hany]
  simp
