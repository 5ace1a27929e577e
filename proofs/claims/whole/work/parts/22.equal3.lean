theorem e_fitsd : ∀ j : Nat, j < 120 → f_M_isType (nI j) = 0 ∨ ∀ i : Nat, i < 120 → f_M_isType (nI i) = 0 ∨ f_B_fits (nI j) (nI i) = f_M_into (nI j) (nI i) := by decide +kernel
theorem e_fits {u t : Int32} (hu : ¬ f_M_isType u = 0) (ht : ¬ f_M_isType t = 0) : f_B_fits u t = f_M_into u t := by
  obtain ⟨j, hj, rfl⟩ := isT_nI hu
  obtain ⟨i, hi, rfl⟩ := isT_nI ht
  exact ((e_fitsd j hj).resolve_left hu i hi).resolve_left ht
theorem e_P_goesInto (u t : Int32) : f_P_goesInto u t = f_M_goesInto u t := by
  rw [f_P_goesInto, f_M_goesInto, e_isType, e_isType]
  by_cases h : f_M_isType u = 0
  · rw [if_pos h, if_pos h]
  · by_cases h2 : f_M_isType t = 0
    · rw [if_neg h, if_neg h, if_pos h2, if_pos h2]
    · rw [e_fits h h2]
theorem e_P_asSubclass (u t : Int32) : f_P_asSubclass u t = f_M_asSubclass u t := by
  rw [f_P_asSubclass, f_M_asSubclass, e_isType, e_isType]
  by_cases h : f_M_isType u = 0
  · rw [if_pos h, if_pos h]
  · by_cases h2 : f_M_isType t = 0
    · rw [if_neg h, if_neg h, if_pos h2, if_pos h2]
    · rw [e_fits h h2]
theorem e_nest : ∀ j : Nat, j < 120 → f_B_isInNest (nI j) = f_M_in (nI j) 11 24 := by decide +kernel
theorem e_P_nestmates (u t : Int32) : f_P_nestmates u t = f_M_nestmates u t := by
  rw [f_P_nestmates, f_M_nestmates, e_isType, e_isType]
  by_cases h : f_M_isType u = 0
  · rw [if_pos h, if_pos h]
  · by_cases h2 : f_M_isType t = 0
    · rw [if_neg h, if_neg h, if_pos h2, if_pos h2]
    · obtain ⟨j, hj, rfl⟩ := isT_nI h
      obtain ⟨i, hi, rfl⟩ := isT_nI h2
      rw [e_nest j hj, e_nest i hi]
