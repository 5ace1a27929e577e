def nw_c : List Cond := flatC (Jvm.Cond.and given_1 narrow_1)
def x_q (i : Nat) : String × Nat × String := li.getD i ("", 0, "")
def x_t (i : Nat) : Term := .string (x_q i).1 (x_q i).2.1
def x_v (i : Nat) : Term := .field (x_t i) "java/lang/String" "value" "[B"
def x_lits (i : Nat) : List Cond := [.exactly (x_t i) "java/lang/String", .eq (.field (x_t i) "java/lang/String" "coder" "B") (.int 0), .arrayOf (x_v i) .byte, .eq (.length (x_v i)) (.int (Int32.ofNat (li_x i).length))] ++ (List.range (li_x i).length).map (fun j => .eq (.elem (x_v i) (.int (Int32.ofNat j))) (.int (li_c i j)))
theorem x_slice : ((nw_c.eraseIdx 444).drop 9).take ((List.range 41).flatMap x_lits).length = (List.range 41).flatMap x_lits := by decide +kernel
theorem x_all : ∀ i : Fin 41, ∀ w ∈ x_lits i.1, w ∈ nw_c := fun i w hw => by
  have h : w ∈ (List.range 41).flatMap x_lits := List.mem_flatMap.mpr ⟨i.1, List.mem_range.mpr i.2, hw⟩
  rw [← x_slice] at h
  exact List.mem_of_mem_eraseIdx (List.mem_of_mem_drop (List.mem_of_mem_take h))
theorem x_ref : ∀ i : Fin 41, Cond.stringRef (x_q i.1).1 (x_q i.1).2.1 (x_q i.1).2.2 ∈ lw_tbl := by decide +kernel
theorem x_len : ∀ i : Fin 41, (li_x i.1).length < 2 ^ 31 := by decide +kernel
theorem x_lit {args : Array Value} {s : State} {A : Nat → Prop} (hA : ∀ a : Nat, a < s.heap.size → ¬ A a) (h : (Jvm.Cond.and given_1 narrow_1).before args s = true) (hts : ∀ w ∈ lw_tbl, w.before args s = true) (i : Nat) (hi : i < 41) : ∃ aK aV : Nat, vk_R (x_q i).1 (x_q i).2.1 (x_q i).2.2 aK s ∧ va_O "java/lang/String" aK A s s.heap ∧ va_OF "java/lang/String" "coder" "B" (.int 0) aK A s s.heap ∧ va_OF "java/lang/String" "value" "[B" (.ref aV) aK A s s.heap ∧ va_T .byte aV (li_x i).length (fun j => .int (li_c i j)) A s s.heap := by
  have hq : ∀ w ∈ x_lits i, w.before args s = true := fun w hw => flat_of_before _ h w (x_all ⟨i, hi⟩ w hw)
  have h1 := hq (.exactly (x_t i) "java/lang/String") (List.mem_append_left _ (List.mem_of_getElem? (i := 0) rfl))
  have h2 := hq (.eq (.field (x_t i) "java/lang/String" "coder" "B") (.int 0)) (List.mem_append_left _ (List.mem_of_getElem? (i := 1) rfl))
  have h3 := hq (.arrayOf (x_v i) .byte) (List.mem_append_left _ (List.mem_of_getElem? (i := 2) rfl))
  have h4 := hq (.eq (.length (x_v i)) (.int (Int32.ofNat (li_x i).length))) (List.mem_append_left _ (List.mem_of_getElem? (i := 3) rfl))
  have h5 : ∀ j : Nat, j < (li_x i).length → (Term.elem (x_v i) (.int (Int32.ofNat j))).eval args s none [] s = some (.int (li_c i j)) := fun j hj =>
    va_eqv (hq (.eq (.elem (x_v i) (.int (Int32.ofNat j))) (.int (li_c i j))) (List.mem_append_right _ (List.mem_map.mpr ⟨j, List.mem_range.mpr hj, rfl⟩))) rfl
  obtain ⟨aK, _, _, _, q1, -⟩ := Cond.exactly_spec (args := args) (first := s) (o := none) (s := s) (idx := []) (t := x_t i) (cls := "java/lang/String") h1
  obtain ⟨aV, q2, q3⟩ := va_Tof (x_len ⟨i, hi⟩) h3 (va_eqv h4 rfl) h5 hA
  exact ⟨aK, aV, vk_R.of (hts _ (x_ref ⟨i, hi⟩)) q1, va_Oof h1 q1 hA, vk_OFof q1 (va_eqv h2 rfl) hA, vk_OFof q1 q2 hA, q3⟩
