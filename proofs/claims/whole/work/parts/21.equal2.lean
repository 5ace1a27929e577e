theorem o_P_related {k : Int32} (h : k < 0 ∨ nI 16 ≤ k) (t : Int32) : f_P_related t k = f_P_related t 16 := by
  have n0 : ¬ k = 0 := by rintro rfl; exact absurd h (by decide)
  have n1 : ¬ k = 1 := by rintro rfl; exact absurd h (by decide)
  have n2 : ¬ k = 2 := by rintro rfl; exact absurd h (by decide)
  have n3 : ¬ k = 3 := by rintro rfl; exact absurd h (by decide)
  have n4 : ¬ k = 4 := by rintro rfl; exact absurd h (by decide)
  have n5 : ¬ k = 5 := by rintro rfl; exact absurd h (by decide)
  have m0 : ¬ (16 : Int32) = 0 := by decide
  have m1 : ¬ (16 : Int32) = 1 := by decide
  have m2 : ¬ (16 : Int32) = 2 := by decide
  have m3 : ¬ (16 : Int32) = 3 := by decide
  have m4 : ¬ (16 : Int32) = 4 := by decide
  have m5 : ¬ (16 : Int32) = 5 := by decide
  simp only [f_P_related, n0, m0, n1, m1, n2, m2, n3, m3, n4, m4, n5, m5, if_false]
theorem in_out {k a b : Int32} (h : k < a ∨ b < k) : f_M_in k a b = 0 := by
  rw [f_M_in]
  by_cases c : k < a
  · rw [if_pos c]
  · rw [if_neg c, if_pos (h.resolve_left c)]
theorem o_M_related {k : Int32} (h : k < 0 ∨ nI 16 ≤ k) (t : Int32) : f_M_related t k = f_M_related t 16 := by
  have e1 : f_M_in k 0 5 = 0 := in_out (h.imp id (fun q => Int32.lt_of_lt_of_le (by decide) q))
  have e2 : f_M_in 16 0 5 = 0 := by decide
  rw [f_M_related, f_M_related, if_pos e1, if_pos e2]
theorem e_P_relatedd : ∀ j : Nat, j < 120 → ∀ i : Nat, i < 17 → f_P_related (nI j) (nI i) = f_M_related (nI j) (nI i) := by decide +kernel
theorem e_P_related (t k : Int32) : f_P_related t k = f_M_related t k := by
  by_cases h : f_M_isType t = 0
  · have h2 := e_isType t
    rw [h] at h2
    rw [f_P_related, f_M_related, if_pos h2, if_pos h]
  · obtain ⟨j, hj, rfl⟩ := isT_nI h
    rcases pk_ix k (n := 16) (by decide) with q | q | ⟨i, hi, rfl⟩
    · rw [o_P_related (Or.inl q), o_M_related (Or.inl q)]; exact e_P_relatedd j hj 16 (by decide)
    · rw [o_P_related (Or.inr q), o_M_related (Or.inr q)]; exact e_P_relatedd j hj 16 (by decide)
    · exact e_P_relatedd j hj i (by omega)
theorem e_ifc : ∀ j : Nat, j < 120 → f_B_interfaceCount (nI j) ≤ 2 := by decide +kernel
theorem e_P_interfaceOfd : ∀ j : Nat, j < 120 → ∀ i : Nat, i < 17 → f_P_interfaceOf (nI j) (nI i) = f_M_interfaceOf (nI j) (nI i) := by decide +kernel
theorem o_M_interfaceOf {k : Int32} (h : k < 0 ∨ nI 16 ≤ k) (t : Int32) : f_M_interfaceOf t k = f_M_interfaceOf t 16 := by
  have e1 : f_M_in k 0 1 = 0 := in_out (h.imp id (fun q => Int32.lt_of_lt_of_le (by decide) q))
  have e2 : f_M_in 16 0 1 = 0 := by decide
  have n0 : ¬ k = 0 := by rintro rfl; exact absurd h (by decide)
  have n1 : ¬ k = 1 := by rintro rfl; exact absurd h (by decide)
  have m0 : ¬ (16 : Int32) = 0 := by decide
  have m1 : ¬ (16 : Int32) = 1 := by decide
  simp only [f_M_interfaceOf, e1, e2, n0, n1, m0, m1, if_false]
theorem o_P_interfaceOf {k : Int32} (h : k < 0 ∨ nI 16 ≤ k) {j : Nat} (hj : j < 120) : f_P_interfaceOf (nI j) k = f_P_interfaceOf (nI j) 16 := by
  have e := e_ifc j hj
  have e3 : ¬ (16 : Int32) < f_B_interfaceCount (nI j) := Int32.not_lt.mpr (Int32.le_trans e (by decide))
  have e4 : f_B_interfaceAt (nI j) 16 = (-2) := by rw [f_B_interfaceAt, if_neg (by decide), if_neg e3]
  have e5 : f_B_interfaceAt (nI j) k = (-2) := by
    rw [f_B_interfaceAt]
    rcases h with q | q
    · rw [if_pos q]
    · rw [if_neg (fun z => absurd (Int32.lt_of_le_of_lt q z) (by decide)), if_neg (Int32.not_lt.mpr (Int32.le_trans e (Int32.le_trans (by decide) q)))]
  rw [f_P_interfaceOf, f_P_interfaceOf, e4, e5]
theorem e_P_interfaceOf (t k : Int32) : f_P_interfaceOf t k = f_M_interfaceOf t k := by
  by_cases h : f_M_isType t = 0
  · have h2 := e_isType t
    rw [h] at h2
    rw [f_P_interfaceOf, f_M_interfaceOf, if_pos h2, if_pos h]
  · obtain ⟨j, hj, rfl⟩ := isT_nI h
    rcases pk_ix k (n := 16) (by decide) with q | q | ⟨i, hi, rfl⟩
    · rw [o_P_interfaceOf (Or.inl q) hj, o_M_interfaceOf (Or.inl q)]; exact e_P_interfaceOfd j hj 16 (by decide)
    · rw [o_P_interfaceOf (Or.inr q) hj, o_M_interfaceOf (Or.inr q)]; exact e_P_interfaceOfd j hj 16 (by decide)
    · exact e_P_interfaceOfd j hj i (by omega)
