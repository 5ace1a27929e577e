theorem b_hi {t : Int32} (h : ¬ t < 120) : f_B_isType t = 0 := by
  have h0 : ¬ t < 0 := fun q => h (Int32.lt_trans q (by decide))
  obtain ⟨j, hj, rfl⟩ := nI_of h0
  have h1 : 120 ≤ j := by
    rcases Nat.lt_or_ge j 120 with q | q
    · exact absurd (nI_lt (a := j) (b := 120) q (by decide)) h
    · exact q
  have h2 : 2 < f_B_levels (nI j) := by
    rw [f_B_levels, show (40 : Int32) = nI 40 from rfl, pk_div hj (by decide) (by decide)]
    exact nI_lt (a := 2) (by omega) (by omega)
  rw [f_B_isType, if_neg h0, if_pos h2]
theorem b_lo {t : Int32} (h : t < 0) : f_B_isType t = 0 := by rw [f_B_isType, if_pos h]
theorem m_hi {t : Int32} (h : ¬ t < 120) : f_M_isType t = 0 := Classical.byContradiction fun q => h (m_isT q)
theorem m_lo {t : Int32} (h : t < 0) : f_M_isType t = 0 := by
  have a1 : ∀ a b : Int32, 0 ≤ a → f_M_in t a b = 0 := by
    intro a b hb
    rw [f_M_in, if_pos (Int32.lt_of_lt_of_le h hb)]
  rw [f_M_isType, if_pos (a1 0 24 (by decide)), if_pos (a1 40 64 (by decide)), if_pos (a1 80 104 (by decide))]
/-- a number is below 0, or not below 120, or one of 120 -/
theorem t_cases (t : Int32) : t < 0 ∨ ¬ t < 120 ∨ ∃ j : Nat, j < 120 ∧ t = nI j := by
  by_cases h0 : t < 0
  · exact Or.inl h0
  · by_cases h1 : t < 120
    · obtain ⟨j, hj, rfl⟩ := nI_of h0
      exact Or.inr (Or.inr ⟨j, (nI_ltI hj (b := 120) (by decide)).mp h1, rfl⟩)
    · exact Or.inr (Or.inl h1)
theorem e_isTd : ∀ j : Nat, j < 120 → f_B_isType (nI j) = f_M_isType (nI j) := by decide +kernel
theorem e_isType (t : Int32) : f_B_isType t = f_M_isType t := by
  rcases t_cases t with h | h | ⟨j, hj, rfl⟩
  · rw [b_lo h, m_lo h]
  · rw [b_hi h, m_hi h]
  · exact e_isTd j hj
/-- a type is one of 120 numbers -/
theorem isT_nI {t : Int32} (h : ¬ f_M_isType t = 0) : ∃ j : Nat, j < 120 ∧ t = nI j := by
  rcases t_cases t with q | q | q
  · exact absurd (m_lo q) h
  · exact absurd (m_hi q) h
  · exact q
theorem o_P_flag {k : Int32} (h : k < 0 ∨ nI 16 ≤ k) (t : Int32) : f_P_flag t k = f_P_flag t 16 := by
  have n0 : ¬ k = 0 := by rintro rfl; exact absurd h (by decide)
  have n1 : ¬ k = 1 := by rintro rfl; exact absurd h (by decide)
  have n2 : ¬ k = 2 := by rintro rfl; exact absurd h (by decide)
  have n3 : ¬ k = 3 := by rintro rfl; exact absurd h (by decide)
  have n4 : ¬ k = 4 := by rintro rfl; exact absurd h (by decide)
  have n5 : ¬ k = 5 := by rintro rfl; exact absurd h (by decide)
  have n6 : ¬ k = 6 := by rintro rfl; exact absurd h (by decide)
  have n7 : ¬ k = 7 := by rintro rfl; exact absurd h (by decide)
  have n8 : ¬ k = 8 := by rintro rfl; exact absurd h (by decide)
  have n9 : ¬ k = 9 := by rintro rfl; exact absurd h (by decide)
  have n10 : ¬ k = 10 := by rintro rfl; exact absurd h (by decide)
  have m0 : ¬ (16 : Int32) = 0 := by decide
  have m1 : ¬ (16 : Int32) = 1 := by decide
  have m2 : ¬ (16 : Int32) = 2 := by decide
  have m3 : ¬ (16 : Int32) = 3 := by decide
  have m4 : ¬ (16 : Int32) = 4 := by decide
  have m5 : ¬ (16 : Int32) = 5 := by decide
  have m6 : ¬ (16 : Int32) = 6 := by decide
  have m7 : ¬ (16 : Int32) = 7 := by decide
  have m8 : ¬ (16 : Int32) = 8 := by decide
  have m9 : ¬ (16 : Int32) = 9 := by decide
  have m10 : ¬ (16 : Int32) = 10 := by decide
  simp only [f_P_flag, n0, m0, n1, m1, n2, m2, n3, m3, n4, m4, n5, m5, n6, m6, n7, m7, n8, m8, n9, m9, n10, m10, if_false]
theorem o_M_flag {k : Int32} (h : k < 0 ∨ nI 16 ≤ k) (t : Int32) : f_M_flag t k = f_M_flag t 16 := by
  have n0 : ¬ k = 0 := by rintro rfl; exact absurd h (by decide)
  have n1 : ¬ k = 1 := by rintro rfl; exact absurd h (by decide)
  have n2 : ¬ k = 2 := by rintro rfl; exact absurd h (by decide)
  have n3 : ¬ k = 3 := by rintro rfl; exact absurd h (by decide)
  have n4 : ¬ k = 4 := by rintro rfl; exact absurd h (by decide)
  have n5 : ¬ k = 5 := by rintro rfl; exact absurd h (by decide)
  have n6 : ¬ k = 6 := by rintro rfl; exact absurd h (by decide)
  have n7 : ¬ k = 7 := by rintro rfl; exact absurd h (by decide)
  have n8 : ¬ k = 8 := by rintro rfl; exact absurd h (by decide)
  have n9 : ¬ k = 9 := by rintro rfl; exact absurd h (by decide)
  have n10 : ¬ k = 10 := by rintro rfl; exact absurd h (by decide)
  have m0 : ¬ (16 : Int32) = 0 := by decide
  have m1 : ¬ (16 : Int32) = 1 := by decide
  have m2 : ¬ (16 : Int32) = 2 := by decide
  have m3 : ¬ (16 : Int32) = 3 := by decide
  have m4 : ¬ (16 : Int32) = 4 := by decide
  have m5 : ¬ (16 : Int32) = 5 := by decide
  have m6 : ¬ (16 : Int32) = 6 := by decide
  have m7 : ¬ (16 : Int32) = 7 := by decide
  have m8 : ¬ (16 : Int32) = 8 := by decide
  have m9 : ¬ (16 : Int32) = 9 := by decide
  have m10 : ¬ (16 : Int32) = 10 := by decide
  simp only [f_M_flag, n0, m0, n1, m1, n2, m2, n3, m3, n4, m4, n5, m5, n6, m6, n7, m7, n8, m8, n9, m9, n10, m10, if_false]
theorem e_P_flagd : ∀ j : Nat, j < 120 → ∀ i : Nat, i < 17 → f_P_flag (nI j) (nI i) = f_M_flag (nI j) (nI i) := by decide +kernel
theorem e_P_flag (t k : Int32) : f_P_flag t k = f_M_flag t k := by
  by_cases h : f_M_isType t = 0
  · have h2 := e_isType t
    rw [h] at h2
    rw [f_P_flag, f_M_flag, if_pos h2, if_pos h]
  · obtain ⟨j, hj, rfl⟩ := isT_nI h
    rcases pk_ix k (n := 16) (by decide) with q | q | ⟨i, hi, rfl⟩
    · rw [o_P_flag (Or.inl q), o_M_flag (Or.inl q)]; exact e_P_flagd j hj 16 (by decide)
    · rw [o_P_flag (Or.inr q), o_M_flag (Or.inr q)]; exact e_P_flagd j hj 16 (by decide)
    · exact e_P_flagd j hj i (by omega)
