theorem x_words {args : Array Value} {s : State} (hts : ∀ w ∈ lw_tbl, w.before args s = true) : ∀ w ∈ tk, w.before args s = true := by
  intro w hw
  rcases List.mem_append.mp (List.mem_filter.mp hw).1 with h | h
  · exact hts w h
  · have hins : (Cond.instantiable R_SB 4).before args s = true := hts _ (by decide +kernel)
    have h0 : (Cond.selects R_SB y_A_isLatin1 y_A_isLatin1).before args s = true := hts _ (by decide +kernel)
    have hq : ∀ y ∈ [y_A_ensureCapacityInternal, y_A_newCapacity, y_A_putStringAt, y_A_inflateIfNeededFor], (Cond.selects R_SB y y).before args s = true := by
      intro y hy
      have hp : Cond.privateMethod y ∈ lw_tbl ∧ Cond.instanceMethod y ∈ lw_tbl ∧ y.cls = R_A := by
        revert y hy
        decide +kernel
      exact sel_priv (by rw [hp.2.2]; decide) hins (hts _ hp.1) (hts _ hp.2.1) h0 (by rw [hp.2.2]; rfl)
    rcases List.mem_cons.mp h with rfl | h
    · exact hq _ (by decide)
    rcases List.mem_cons.mp h with rfl | h
    · exact hq _ (by decide)
    rcases List.mem_cons.mp h with rfl | h
    · exact hq _ (by decide)
    rcases List.mem_cons.mp h with rfl | h
    · exact hq _ (by decide)
    · exact absurd h List.not_mem_nil
theorem x_nst {args : Array Value} {s : State} (hts : ∀ w ∈ lw_tbl, w.before args s = true) : Nst s := fun w hw => va_Nw.of (nw_on hw) (hts w (List.mem_filter.mp hw).1)
