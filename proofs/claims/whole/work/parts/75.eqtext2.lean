set_option maxRecDepth 100000 in
theorem e_lend : ∀ j : Nat, j < 120 → f_M_isType (nI j) = 0 ∨ ∀ k : Nat, k < 8 → (zf_M_make (nI j) (nI k)).1.length ≤ 100 := by decide +kernel
theorem getD_nI (l : List Nat) (k : Nat) : (l.map nI).getD k 0 = nI (l.getD k 0) := by
  simp only [List.getD, List.getElem?_map]
  cases l[k]? <;> rfl
theorem e_letter (t wh i : Int32) : f_M_letter t wh i = f_P_letter t wh i := by
  rw [f_P_letter, ← e_size, f_M_size, f_M_letter]
  by_cases h : f_M_isType t = 0
  · simp only [if_pos h]
    rw [if_neg (by decide)]
  · simp only [if_neg h]
    by_cases h1 : f_M_in wh 0 7 = 0
    · simp only [if_pos h1]
      rw [if_neg (by decide)]
    · simp only [if_neg h1]
      have h0 : ¬ wh < 0 := fun q => h1 (in_out (Or.inl q))
      have h7 : wh ≤ 7 := Int32.not_lt.mp (fun q => h1 (in_out (Or.inr q)))
      by_cases h2 : (zf_M_make t wh).2 = 0
      · simp only [if_pos h2]
        rw [if_neg (by decide)]
      · simp only [if_neg h2]
        have hle : (zf_M_make t wh).1.length ≤ 100 := by
          obtain ⟨j, hj, rfl⟩ := isT_nI h
          obtain ⟨k, hk, rfl⟩ := nI_of2 (M := 7) (n := 7) (by decide) h0 h7
          exact (e_lend j hj).resolve_left h k (by omega)
        rw [if_pos (nI_pos' (by omega))]
        by_cases h3 : i < 0
        · rw [if_pos h3, if_pos h3]
        · rw [if_neg h3, if_neg h3]
          by_cases h4 : i < nI (zf_M_make t wh).1.length
          · rw [if_pos h4, if_neg (Int32.not_le.mpr h4), (e_text h h0 h7).2, getD_nI]
          · rw [if_neg h4, if_pos (Int32.not_lt.mp h4)]
theorem o_P_number {k : Int32} (h : k < 0 ∨ nI 16 ≤ k) (t : Int32) : f_P_number t k = f_P_number t 16 := by
  have n0 : ¬ k = 0 := by rintro rfl; exact absurd h (by decide)
  have n1 : ¬ k = 1 := by rintro rfl; exact absurd h (by decide)
  have n2 : ¬ k = 2 := by rintro rfl; exact absurd h (by decide)
  have n3 : ¬ k = 3 := by rintro rfl; exact absurd h (by decide)
  have n4 : ¬ k = 4 := by rintro rfl; exact absurd h (by decide)
  have n5 : ¬ k = 5 := by rintro rfl; exact absurd h (by decide)
  have n6 : ¬ k = 6 := by rintro rfl; exact absurd h (by decide)
  have n7 : ¬ k = 7 := by rintro rfl; exact absurd h (by decide)
  have m0 : ¬ (16 : Int32) = 0 := by decide
  have m1 : ¬ (16 : Int32) = 1 := by decide
  have m2 : ¬ (16 : Int32) = 2 := by decide
  have m3 : ¬ (16 : Int32) = 3 := by decide
  have m4 : ¬ (16 : Int32) = 4 := by decide
  have m5 : ¬ (16 : Int32) = 5 := by decide
  have m6 : ¬ (16 : Int32) = 6 := by decide
  have m7 : ¬ (16 : Int32) = 7 := by decide
  simp only [f_P_number, n0, m0, n1, m1, n2, m2, n3, m3, n4, m4, n5, m5, n6, m6, n7, m7, if_false]
theorem o_M_number {k : Int32} (h : k < 0 ∨ nI 16 ≤ k) (t : Int32) : f_M_number t k = f_M_number t 16 := by
  have e1 : f_M_in k 0 7 = 0 := in_out (h.imp id (fun q => Int32.lt_of_lt_of_le (by decide) q))
  have e2 : f_M_in 16 0 7 = 0 := by decide
  rw [f_M_number, f_M_number, if_pos e1, if_pos e2]
theorem e_P_numberd : ∀ j : Nat, j < 120 → f_M_isType (nI j) = 0 ∨ ∀ i : Nat, i < 17 → f_P_number (nI j) (nI i) = f_M_number (nI j) (nI i) := by decide +kernel
theorem e_P_number (t k : Int32) : f_P_number t k = f_M_number t k := by
  by_cases h : f_M_isType t = 0
  · have h2 := e_isType t
    rw [h] at h2
    rw [f_P_number, f_M_number, if_pos h2, if_pos h]
  · obtain ⟨j, hj, rfl⟩ := isT_nI h
    have hd := (e_P_numberd j hj).resolve_left h
    rcases pk_ix k (n := 16) (by decide) with q | q | ⟨i, hi, rfl⟩
    · rw [o_P_number (Or.inl q), o_M_number (Or.inl q)]; exact hd 16 (by decide)
    · rw [o_P_number (Or.inr q), o_M_number (Or.inr q)]; exact hd 16 (by decide)
    · exact hd i (by omega)
