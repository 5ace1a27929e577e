theorem e_type (xs : List Nat) (ch : Int32) (h40 : xs.length ≤ 40) : zt_M_type (xs.map nI) ch = ((zt_Q_add xs ch).1.map nI, (zt_Q_add xs ch).2) := by
  rw [zt_M_type, zt_Q_add]
  by_cases h1 : ch < 33
  · rw [if_pos h1, if_pos h1]
  · rw [if_neg h1, if_neg h1]
    by_cases h2 : ch ≤ 126
    · rw [if_pos h2, if_pos h2]
      have e0 : (xs.map nI ++ [ch]) = (xs ++ [ch.toNatClampNeg]).map nI := by
        rw [List.map_append, List.map_cons, List.map_nil, ← (q_ch h1 h2).1]
      by_cases h3 : xs.length = 40
      · rw [if_pos (show nI (xs.map nI).length = 40 by rw [List.length_map, h3]; rfl), if_neg (show ¬ nI xs.length < 40 by rw [h3]; decide)]
      · have hlt : nI xs.length < 40 := by
          rcases Int32.lt_or_le (nI xs.length) 40 with z | z
          · exact z
          · exact absurd z (nI_ge (a := xs.length) (b := 40) (by omega) (by decide))
        rw [if_neg (show ¬ nI (xs.map nI).length = 40 by rw [List.length_map]; exact fun z => h3 ((nI_eq (b := 40) (by omega) (by decide)).mp z)), if_pos hlt, z_M_one, e0, List.length_map]
    · rw [if_neg h2, if_neg h2]
theorem q_add_len (xs : List Nat) (ch : Int32) (h40 : xs.length ≤ 40) : (zt_Q_add xs ch).1.length ≤ 40 := by
  rw [zt_Q_add]
  split
  · exact h40
  · split
    · split
      · rename_i h
        have : xs.length < 40 := by
          rcases Nat.lt_or_ge xs.length 40 with z | z
          · exact z
          · exact absurd h (by rw [show xs.length = 40 by omega]; decide)
        rw [List.length_append]; exact this
      · exact h40
    · exact h40
theorem e_types0 (w : Int64) : ∀ (n : Nat) (xs : List Nat), xs.length ≤ 40 → zg_M_types w n (xs.map nI) = ((zg_P_types w n xs).1.map nI, (zg_P_types w n xs).2) := by
  intro n
  induction n with
  | zero => intro xs _; rw [zg_M_types, zg_P_types, List.length_map]
  | succ n ih =>
    intro xs h
    rw [zg_M_types, zg_P_types, e_type xs _ h]
    by_cases h1 : by8 w (nI (8 * n)) = 0
    · rw [if_pos h1, if_pos h1]; exact ih xs h
    · rw [if_neg h1, if_neg h1]
      by_cases h2 : 0 ≤ (zt_Q_add xs (by8 w (nI (8 * n)))).2
      · rw [if_pos h2, if_pos h2]; exact ih _ (q_add_len xs _ h)
      · rw [if_neg h2, if_neg h2]
theorem e_types (xs : List Nat) (w : Int64) (h40 : xs.length ≤ 40) : zt_M_types (xs.map nI) w = ((zt_P_types xs w).1.map nI, (zt_P_types xs w).2) := e_types0 w 8 xs h40
theorem e_slot (i : Int32) : f_P_isSlot i = f_M_in i 0 7 := by
  have h : (8 : Int32) ≤ i ↔ 7 < i := by
    rw [Int32.le_iff_toInt_le, Int32.lt_iff_toInt_lt, show (8 : Int32).toInt = 8 by decide, show (7 : Int32).toInt = 7 by decide]; omega
  rw [f_P_isSlot, f_M_in]
  by_cases h1 : i < 0
  · rw [if_pos h1, if_pos h1]
  · rw [if_neg h1, if_neg h1]
    by_cases h2 : 7 < i
    · rw [if_pos h2, if_pos (h.mpr h2)]
    · rw [if_neg h2, if_neg (fun z => h2 (h.mp z))]
theorem sl_lt {i : Int32} (h : ¬ f_M_in i 0 7 = 0) : ∃ j, j < 8 ∧ i = nI j ∧ i.toNatClampNeg = j := by
  have h1 : ¬ i < 0 := fun q => h (in_out (Or.inl q))
  have h2 : ¬ 7 < i := fun q => h (in_out (Or.inr q))
  obtain ⟨j, hj, rfl⟩ := nI_of h1
  have hj8 : j < 8 := by
    rcases Nat.lt_or_ge j 8 with z | z
    · exact z
    · exact absurd (Int32.lt_of_lt_of_le (show (7 : Int32) < nI 8 by decide) (nI_le z hj)) h2
  exact ⟨j, hj8, rfl, nI_clamp (by omega)⟩
/-- the slots of both hold the like -/
def sR (hp hd gd : Nat → Int32) (N : Nat) : Prop := (∀ j, j < 8 → (hp j = -2 ∧ hd j = -1) ∨ (hp j = hd j ∧ ¬ f_M_isType (hd j) = 0 ∧ (¬ f_M_alone (hd j) = 0 → gd j = hd j) ∧ (f_M_alone (hd j) = 0 → ∃ k, k ≤ 100 + N ∧ gd j = nI k))) ∧ ∀ i j, i < 8 → j < 8 → i ≠ j → hd i = hd j → ¬ f_M_isType (hd i) = 0 → f_M_alone (hd i) = 0 → gd i ≠ gd j
theorem upd_s (f : Nat → Int32) (k : Nat) (x : Int32) : upd f k x k = x := by rw [upd, if_pos rfl]
theorem upd_o (f : Nat → Int32) {k j : Nat} (x : Int32) (h : j ≠ k) : upd f k x j = f j := by rw [upd, if_neg h]
theorem sR.set {hp hd gd : Nat → Int32} {N : Nat} (h : sR hp hd gd N) (hN : N ≤ 100000) {a : Nat} {v w x : Int32} (hv : (v = -2 ∧ w = -1) ∨ (v = w ∧ ¬ f_M_isType w = 0)) (h1 : ¬ f_M_alone w = 0 → x = w) (h2 : f_M_alone w = 0 → x = nI (100 + (N + 1))) : sR (upd hp a v) (upd hd a w) (upd gd a x) (N + 1) := by
  have old : ∀ j, j < 8 → ¬ f_M_isType (hd j) = 0 → f_M_alone (hd j) = 0 → gd j ≠ nI (100 + (N + 1)) := fun j hj ht ha => by
    rcases h.1 j hj with z | z
    · exact absurd (by rw [z.2]; decide) ht
    · obtain ⟨k, hk, e⟩ := z.2.2.2 ha
      rw [e]
      exact fun q => absurd ((nI_eq (by omega) (by omega)).mp q) (by omega)
  refine ⟨fun j hj => ?_, fun i j hi hj hij => ?_⟩
  · by_cases hja : j = a
    · rw [hja, upd_s, upd_s, upd_s]
      rcases hv with z | z
      · exact Or.inl z
      · exact Or.inr ⟨z.1, z.2, h1, fun q => ⟨_, Nat.le_refl _, h2 q⟩⟩
    · rw [upd_o _ _ hja, upd_o _ _ hja, upd_o _ _ hja]
      rcases h.1 j hj with z | z
      · exact Or.inl z
      · exact Or.inr ⟨z.1, z.2.1, z.2.2.1, fun q => by obtain ⟨k, hk, e⟩ := z.2.2.2 q; exact ⟨k, by omega, e⟩⟩
  · by_cases hia : i = a
    · have hja : j ≠ a := fun z => hij (hia.trans z.symm)
      rw [hia, upd_s, upd_s, upd_o _ _ hja, upd_o _ _ hja]
      intro e ht ha
      rw [h2 ha]
      rw [e] at ht ha
      exact fun q => old j hj ht ha q.symm
    · by_cases hja : j = a
      · rw [hja, upd_s, upd_s, upd_o _ _ hia, upd_o _ _ hia]
        intro e ht ha
        rw [h2 (by rw [← e]; exact ha)]
        exact old i hi ht ha
      · rw [upd_o _ _ hia, upd_o _ _ hia, upd_o _ _ hja, upd_o _ _ hja]
        exact h.2 i j hi hj hij
theorem e_somed : ∀ j : Nat, j < 120 → f_M_isType (nI j) = 0 ∨ (f_B_hasThings (nI j) = 0 ↔ f_M_some (nI j) = 0) := by decide +kernel
theorem e_some {t : Int32} (h : ¬ f_M_isType t = 0) : f_B_hasThings t = 0 ↔ f_M_some t = 0 := by
  obtain ⟨j, hj, rfl⟩ := isT_nI h
  exact (e_somed j hj).resolve_left h
theorem e_put {hp hd gd : Nat → Int32} {N : Nat} (h : sR hp hd gd N) (hN : N ≤ 100000) (i t : Int32) : (zp_P_put hp i t).1 = (zp_M_put (nI (100 + N)) hd gd i t).1 ∧ ∃ N', N' ≤ N + 1 ∧ (zp_M_put (nI (100 + N)) hd gd i t).2.1 = nI (100 + N') ∧ sR (zp_P_put hp i t).2 (zp_M_put (nI (100 + N)) hd gd i t).2.2.1 (zp_M_put (nI (100 + N)) hd gd i t).2.2.2 N' := by
  rw [zp_P_put, zp_M_put, e_slot, e_isType]
  by_cases h1 : f_M_in i 0 7 = 0
  · rw [if_pos h1, if_pos h1]; exact ⟨rfl, N, by omega, rfl, h⟩
  · rw [if_neg h1, if_neg h1]
    have e1 : nI (100 + N) + 1 = nI (100 + (N + 1)) := nI_1 _
    by_cases h2 : t = -1
    · rw [if_pos h2, if_pos h2, h2, if_neg (show ¬ f_M_some (-1) = 0 by decide), if_pos (show f_M_alone (-1) = 0 by decide)]
      exact ⟨rfl, N + 1, Nat.le_refl _, e1, h.set hN (Or.inl ⟨rfl, rfl⟩) (fun z => absurd (by decide) z) (fun _ => e1)⟩
    · rw [if_neg h2, if_neg h2]
      by_cases h3 : f_M_isType t = 0
      · rw [if_pos h3, if_pos h3]; exact ⟨rfl, N, by omega, rfl, h⟩
      · rw [if_neg h3, if_neg h3]
        by_cases h4 : f_M_some t = 0
        · rw [if_pos h4, if_pos ((e_some h3).mpr h4)]; exact ⟨rfl, N, by omega, rfl, h⟩
        · rw [if_neg h4, if_neg (fun z => h4 ((e_some h3).mp z))]
          by_cases h5 : f_M_alone t = 0
          · rw [if_pos h5]
            exact ⟨rfl, N + 1, Nat.le_refl _, e1, h.set hN (Or.inr ⟨rfl, h3⟩) (fun z => absurd h5 z) (fun _ => e1)⟩
          · rw [if_neg h5]
            exact ⟨rfl, N + 1, Nat.le_refl _, e1, h.set hN (Or.inr ⟨rfl, h3⟩) (fun _ => rfl) (fun z => absurd z h5)⟩
theorem isT_nn {t : Int32} (h : ¬ f_M_isType t = 0) : ¬ t < 0 ∧ 0 ≤ t ∧ ¬ t = -2 := by
  obtain ⟨j, hj, rfl⟩ := isT_nI h
  have : ∀ j : Nat, j < 120 → ¬ nI j < 0 ∧ 0 ≤ nI j ∧ ¬ nI j = -2 := by decide +kernel
  exact this j hj
theorem e_typeOf {hp hd gd : Nat → Int32} {N : Nat} (h : sR hp hd gd N) (i : Int32) : f_P_typeOf hp i = f_M_typeOf hd i := by
  rw [f_P_typeOf, f_M_typeOf, e_slot]
  by_cases h1 : f_M_in i 0 7 = 0
  · rw [if_pos h1, if_pos h1]
  · rw [if_neg h1, if_neg h1]
    obtain ⟨j, hj, _, e⟩ := sl_lt h1
    rw [e]
    rcases h.1 j hj with z | z
    · rw [z.1, z.2, if_neg (by decide)]
    · rw [z.1, if_pos (isT_nn z.2.1).2.1]
theorem z_B_fitsd : ∀ j : Nat, j < 120 → f_M_isType (nI j) = 0 ∨ ∀ i : Nat, i < 120 → f_M_isType (nI i) = 0 ∨ f_M_into (nI j) (nI i) = 0 ∨ f_M_into (nI j) (nI i) = 1 := by decide +kernel
theorem z_into {u t : Int32} (hu : ¬ f_M_isType u = 0) (ht : ¬ f_M_isType t = 0) : f_M_into u t = 0 ∨ f_M_into u t = 1 := by
  obtain ⟨j, hj, rfl⟩ := isT_nI hu
  obtain ⟨i, hi, rfl⟩ := isT_nI ht
  exact ((z_B_fitsd j hj).resolve_left hu i hi).resolve_left ht
theorem e_isOf {hp hd gd : Nat → Int32} {N : Nat} (h : sR hp hd gd N) (i t : Int32) : f_P_isOf hp i t = f_M_isOf hd i t := by
  rw [f_P_isOf, f_M_isOf, e_slot, e_isType]
  by_cases h1 : f_M_in i 0 7 = 0
  · rw [if_pos h1, if_pos h1]
  · rw [if_neg h1, if_neg h1]
    by_cases h2 : f_M_isType t = 0
    · rw [if_pos h2, if_pos h2]
    · rw [if_neg h2, if_neg h2]
      obtain ⟨j, hj, _, e⟩ := sl_lt h1
      rw [e]
      rcases h.1 j hj with z | z
      · rw [z.1, z.2, if_pos rfl, if_pos (by decide)]
      · rw [z.1, if_neg (isT_nn z.2.1).2.2, if_neg (isT_nn z.2.1).1, e_fits z.2.1 h2]
        rcases z_into z.2.1 h2 with q | q
        · rw [q, if_pos rfl]
        · rw [q, if_neg (by decide)]
theorem e_cast {hp hd gd : Nat → Int32} {N : Nat} (h : sR hp hd gd N) (i t : Int32) : f_P_cast hp i t = f_M_cast hd i t := by
  rw [f_P_cast, f_M_cast, e_slot, e_isType]
  by_cases h1 : f_M_in i 0 7 = 0
  · rw [if_pos h1, if_pos h1]
  · rw [if_neg h1, if_neg h1]
    by_cases h2 : f_M_isType t = 0
    · rw [if_pos h2, if_pos h2]
    · rw [if_neg h2, if_neg h2]
      obtain ⟨j, hj, _, e⟩ := sl_lt h1
      rw [e]
      rcases h.1 j hj with z | z
      · rw [z.1, z.2, if_pos rfl, if_pos (show (-1 : Int32) < 0 by decide)]
      · rw [z.1, if_neg (isT_nn z.2.1).2.2, if_neg (isT_nn z.2.1).1, e_fits z.2.1 h2]
theorem e_light {hp hd gd : Nat → Int32} {N : Nat} (h : sR hp hd gd N) (i : Int32) : f_P_light hp i = f_M_light hd i := by
  rw [f_P_light, f_M_light, e_slot]
  by_cases h1 : f_M_in i 0 7 = 0
  · rw [if_pos h1, if_pos h1]
  · rw [if_neg h1, if_neg h1]
    obtain ⟨j, hj, _, e⟩ := sl_lt h1
    rw [e]
    rcases h.1 j hj with z | z
    · rw [z.1, z.2]; decide
    · rw [z.1, if_neg (isT_nn z.2.1).2.2, if_pos (isT_nn z.2.1).2.1]
      generalize hd j = x
      by_cases a : x = 14
      · rw [a]; decide
      · by_cases b : x = 16
        · rw [b]; decide
        · by_cases c : x = 17
          · rw [c]; decide
          · rw [if_neg a, if_neg b, if_neg c, if_neg b, if_neg c, if_neg a]
theorem e_alwaysd : ∀ j : Nat, j < 120 → (f_P_isAlwaysAlike (nI j) = 0 ↔ (f_M_alone (nI j) = 0 ∧ ¬ nI j = 14)) := by decide +kernel
theorem e_always {t : Int32} (h : ¬ f_M_isType t = 0) : f_P_isAlwaysAlike t = 0 ↔ (f_M_alone t = 0 ∧ ¬ t = 14) := by
  obtain ⟨j, hj, rfl⟩ := isT_nI h
  exact e_alwaysd j hj
theorem e_alike {hp hd gd : Nat → Int32} {N : Nat} (h : sR hp hd gd N) (i t : Int32) : f_P_alike hp i t = f_M_alike hd gd i t := by
  rw [f_P_alike, f_M_alike, e_slot, e_slot]
  by_cases h1 : f_M_in i 0 7 = 0
  · rw [if_pos h1, if_pos h1]
  · rw [if_neg h1, if_neg h1]
    by_cases h2 : f_M_in t 0 7 = 0
    · rw [if_pos h2, if_pos h2]
    · rw [if_neg h2, if_neg h2]
      obtain ⟨a, ha, ea, eA⟩ := sl_lt h1
      obtain ⟨b, hb, eb, eB⟩ := sl_lt h2
      rw [eA, eB]
      by_cases h3 : i = t
      · have hab : a = b := by rw [← eA, ← eB, h3]
        rw [if_pos h3, hab, if_pos rfl, if_pos (rfl : gd b = gd b)]
        split
        · rfl
        · split <;> rfl
      · have hab : a ≠ b := fun z => h3 (by rw [ea, eb, z])
        rw [if_neg h3]
        rcases h.1 a ha with z | z
        · rcases h.1 b hb with y | y
          · rw [z.1, z.2, y.1, y.2]; rfl
          · rw [z.1, z.2, y.1, if_neg (fun q => (isT_nn y.2.1).2.2 q.symm), if_neg (fun q => (isT_nn y.2.1).1 (by rw [← q]; decide))]
        · rcases h.1 b hb with y | y
          · rw [z.1, y.1, y.2, if_neg (isT_nn z.2.1).2.2, if_neg (fun q => (isT_nn z.2.1).1 (by rw [q]; decide))]
          · rw [z.1, y.1]
            by_cases h4 : hd a = hd b
            · rw [if_pos h4, if_pos h4, if_neg (isT_nn z.2.1).1]
              by_cases h5 : f_P_isAlwaysAlike (hd a) = 0
              · have ⟨q1, q2⟩ := (e_always z.2.1).mp h5
                rw [if_pos h5, if_neg q2, if_neg (h.2 a b ha hb hab h4 z.2.1 q1)]
              · rw [if_neg h5]
                by_cases q2 : hd a = 14
                · rw [if_pos q2]
                · have q1 : ¬ f_M_alone (hd a) = 0 := fun q => h5 ((e_always z.2.1).mpr ⟨q, q2⟩)
                  rw [if_neg q2, if_pos (by rw [z.2.2.1 q1, y.2.2.1 (by rw [← h4]; exact q1), h4])]
            · rw [if_neg h4, if_neg h4]
