theorem x_sts : ∀ w ∈ ([.eq (.static "java/lang/String" "COMPACT_STRINGS" "Z") (.int 1), .isRef (.static "jdk/internal/util/Preconditions" "SIOOBE_FORMATTER" "Ljava/util/function/BiFunction;")] : List Cond), w ∈ nw_c := by decide +kernel
theorem x_tws : ∀ w ∈ ([.laysStatic "java/lang/String" "COMPACT_STRINGS" "Z", .initialized "java/lang/String", .laysStatic "jdk/internal/util/Preconditions" "SIOOBE_FORMATTER" "Ljava/util/function/BiFunction;", .initialized "jdk/internal/util/Preconditions", .arrayClass .int, .arrayClass .byte, .instantiable R_P 3, .instantiable R_S 1, .instantiable R_Q 1, .instantiable R_SB 4, .instantiable R_M 7] : List Cond), w ∈ lw_tbl := by decide +kernel
theorem x_Gx {args : Array Value} {s : State} {A : Nat → Prop} (hA : ∀ a : Nat, a < s.heap.size → ¬ A a) (h : (Jvm.Cond.and given_1 narrow_1).before args s = true) (hts : ∀ w ∈ lw_tbl, w.before args s = true) : ∃ g : gT, Gx g A s s.heap := by
  have hn : ∀ w ∈ nw_c, w.before args s = true := fun w hw => flat_of_before _ h w hw
  have hk := x_words hts
  have ht : ∀ (i : Nat) (w : Cond), ([.laysStatic "java/lang/String" "COMPACT_STRINGS" "Z", .initialized "java/lang/String", .laysStatic "jdk/internal/util/Preconditions" "SIOOBE_FORMATTER" "Ljava/util/function/BiFunction;", .initialized "jdk/internal/util/Preconditions", .arrayClass .int, .arrayClass .byte, .instantiable R_P 3, .instantiable R_S 1, .instantiable R_Q 1, .instantiable R_SB 4, .instantiable R_M 7] : List Cond)[i]? = some w → w.before args s = true := fun i w hw => hts w (x_tws w (List.mem_of_getElem? hw))
  obtain ⟨c0, i0, k0⟩ := u_known (C := R_P) (T := F_P) (N := 3) (n := 3) hk in_P (ht 6 _ rfl)
  obtain ⟨c1, i1, k1⟩ := u_known (C := R_S) (T := F_S) (N := 1) (n := 1) hk in_S (ht 7 _ rfl)
  obtain ⟨c2, i2, k2⟩ := u_known (C := R_Q) (T := F_Q) (N := 1) (n := 1) hk in_Q (ht 8 _ rfl)
  obtain ⟨c3, i3, k3⟩ := u_known (C := R_SB) (T := F_SB) (N := 4) (n := 4) hk in_SB (ht 9 _ rfl)
  obtain ⟨c4, i4, k4⟩ := u_known (C := R_M) (T := F_M) (N := 7) (n := 7) hk in_M (ht 10 _ rfl)
  obtain ⟨cI, kI, coI, fI, gI1, gI2⟩ := Cond.arrayClass_spec (ht 4 _ rfl)
  obtain ⟨cB, kB, coB, fB, gB1, gB2⟩ := Cond.arrayClass_spec (ht 5 _ rfl)
  have hL : ∀ i : Nat, ∃ q : Nat × Nat, i < 41 → vk_R (x_q i).1 (x_q i).2.1 (x_q i).2.2 q.1 s ∧ va_O "java/lang/String" q.1 A s s.heap ∧ va_OF "java/lang/String" "coder" "B" (.int 0) q.1 A s s.heap ∧ va_OF "java/lang/String" "value" "[B" (.ref q.2) q.1 A s s.heap ∧ va_T .byte q.2 (li_x i).length (fun j => .int (li_c i j)) A s s.heap := by
    intro i
    by_cases hi : i < 41
    · obtain ⟨aK, aV, hq⟩ := x_lit hA h hts i hi
      exact ⟨(aK, aV), fun _ => hq⟩
    · exact ⟨(0, 0), fun z => absurd z hi⟩
  obtain ⟨f, hf⟩ := Classical.skolem.mp hL
  refine ⟨((fun k => match k with
    | 0 => c0
    | 1 => c1
    | 2 => c2
    | 3 => c3
    | _ => c4, fun k => match k with
    | 0 => i0
    | 1 => i1
    | 2 => i2
    | 3 => i3
    | _ => i4), cI, cB, fun i => (f i).1, fun i => (f i).2), x_nst hts, ⟨?_, ?_⟩, ?_, ?_, ?_, ?_⟩
  · intro k q hq
    match k, hq with
    | 0, hq => cases hq; exact k0
    | 1, hq => cases hq; exact k1
    | 2, hq => cases hq; exact k2
    | 3, hq => cases hq; exact k3
    | 4, hq => cases hq; exact k4
    | k + 5, hq => simp [classes] at hq
  · intro k q hq
    match k, hq with
    | 0, hq => cases hq; exact ⟨fun n z => ⟨fun k h => (by cases h), kI, gI1, coI, gI2⟩, fI⟩
    | 1, hq => cases hq; exact ⟨fun n z => ⟨fun k h => (by cases h), kB, gB1, coB, gB2⟩, fB⟩
    | k + 2, hq => simp [gTy] at hq
  · intro i q hq
    have hi : i < 41 := (List.getElem?_eq_some_iff.mp hq).1
    have e : x_q i = q := by
      show li.getD i ("", 0, "") = q
      rw [List.getD_eq_getElem?_getD, hq]
      rfl
    have := (hf i hi).1
    rw [e] at this
    exact this
  · intro i hi
    exact (hf i hi).2
  · exact va_Zof (ht 0 _ rfl) (ht 1 _ rfl) (va_eqv (hn _ (x_sts _ (List.mem_of_getElem? (i := 0) rfl))) rfl) hA
  · exact va_Zqof (ht 2 _ rfl) (ht 3 _ rfl) (hn _ (x_sts _ (List.mem_of_getElem? (i := 1) rfl))) hA
