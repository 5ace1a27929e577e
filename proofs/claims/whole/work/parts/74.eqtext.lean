set_option maxRecDepth 100000 in
theorem e_textd : ∀ j : Nat, j < 120 → f_M_isType (nI j) = 0 ∨ ∀ k : Nat, k < 8 → (zf_M_make (nI j) (nI k)).2 = (zf_S_write (nI j) (f_B_plain (nI j)).toNatClampNeg (nI k)).2 ∧ (zf_M_make (nI j) (nI k)).1 = (zf_S_write (nI j) (f_B_plain (nI j)).toNatClampNeg (nI k)).1.map nI := by decide +kernel
theorem e_text {t wh : Int32} (h : ¬ f_M_isType t = 0) (h0 : ¬ wh < 0) (h7 : wh ≤ 7) : (zf_M_make t wh).2 = (zf_S_write t (f_B_plain t).toNatClampNeg wh).2 ∧ (zf_M_make t wh).1 = (zf_S_write t (f_B_plain t).toNatClampNeg wh).1.map nI := by
  obtain ⟨j, hj, rfl⟩ := isT_nI h
  obtain ⟨k, hk, rfl⟩ := nI_of2 (M := 7) (n := 7) (by decide) h0 h7
  exact (e_textd j hj).resolve_left h k (by omega)
theorem in07 {w : Int32} (h0 : ¬ w < 0) (h7 : w ≤ 7) : ¬ f_M_in w 0 7 = 0 := by
  rw [f_M_in, if_neg h0, if_neg (Int32.not_lt.mpr h7)]
  decide
theorem e_size (t wh : Int32) : f_M_size t wh = f_P_writeText t wh := by
  rw [f_M_size, f_P_writeText, e_isType]
  by_cases h : f_M_isType t = 0
  · rw [if_pos h, if_pos h]
  · rw [if_neg h, if_neg h]
    by_cases h0 : wh < 0
    · rw [if_pos h0, if_pos (in_out (Or.inl h0))]
    · rw [if_neg h0]
      by_cases h7 : wh ≤ 7
      · rw [if_pos h7, if_neg (in07 h0 h7), (e_text h h0 h7).1, (e_text h h0 h7).2, List.length_map]
      · rw [if_neg h7, if_pos (in_out (Or.inr (Int32.not_le.mp h7)))]
