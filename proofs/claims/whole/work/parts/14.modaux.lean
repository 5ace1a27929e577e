theorem m_l3 : ∀ j : Nat, j < 120 → (nI j + (-40)) + (-40) < 40 := by decide +kernel
theorem m_lt3 {u : Int32} (h : u < 120) (h1 : ¬ u < 40) (_ : ¬ (u + (-40)) < 40) : (u + (-40)) + (-40) < 40 := by
  obtain ⟨j, hj, rfl⟩ := nI_of (x := u) (fun q => h1 (Int32.lt_trans q (by decide)))
  exact m_l3 j ((nI_ltI hj (b := 120) (by decide)).mp h)
theorem m_isT {u : Int32} (h : ¬ f_M_isType u = 0) : u < 120 := by
  apply Classical.byContradiction
  intro hn
  apply h
  have a1 : ∀ a b : Int32, b < 120 → f_M_in u a b = 0 := by
    intro a b hb
    rw [f_M_in]
    by_cases c1 : u < a
    · rw [if_pos c1]
    · rw [if_neg c1, if_pos (Int32.lt_of_lt_of_le hb (Int32.not_lt.mp hn))]
  rw [f_M_isType, if_pos (a1 0 24 (by decide)), if_pos (a1 40 64 (by decide)), if_pos (a1 80 104 (by decide))]
