theorem mp_getD (xs : List Nat) (i : Nat) : (xs.map nI).getD i 0 = nI (xs.getD i 0) := by
  rw [List.getD_eq_getElem?_getD, List.getD_eq_getElem?_getD, List.getElem?_map]
  cases xs[i]? with
  | none => rfl
  | some v => rfl
theorem e_stands0 (xs : List Nat) (i f : Nat) : ∀ d, zg_M_stands ((li_x i).map nI) (xs.map nI) f d = zg_Q_standsAt xs i f d := by
  intro d
  induction d with
  | zero => rfl
  | succ d ih => rw [zg_M_stands, zg_Q_standsAt, ih, mp_getD, mp_getD, List.length_map]
theorem e_names : ∀ k : Fin 25, z_M_addName ([] : List Int32) (nI k.1) = (li_x (f_B_name (nI k.1))).map nI := by decide +kernel
theorem e_nest39 : z_M_one (z_M_addOwn ([] : List Int32) 11) 36 = (li_x 39).map nI := by decide +kernel
theorem e_nested (xs : List Nat) (f q : Nat) : f_M_nested (xs.map nI) f q = f_Q_standsAt xs 39 f q := by
  rw [f_M_nested, f_M_stands, e_nest39, if_neg (show ¬ (1 : Int32) = 0 by decide), f_Q_standsAt, List.length_map, e_stands0]
theorem e_exact (xs : List Nat) (k f q : Nat) (hk : k < 25) : f_M_stands (z_M_addName ([] : List Int32) (nI k)) (xs.map nI) f q 0 = if (nI (q - f)) = (nI (li_x (f_B_name (nI k))).length) then f_Q_standsAt xs (f_B_name (nI k)) f q else 0 := by
  rw [e_names ⟨k, hk⟩, f_M_stands, if_pos rfl, List.length_map, e_stands0, f_Q_standsAt]
  by_cases h : nI (q - f) = nI (li_x (f_B_name (nI k))).length
  · rw [if_pos h.symm, if_pos h, if_pos (by rw [h]; exact Int32.le_refl _)]
  · rw [if_neg (fun z => h z.symm), if_neg h]
/-- what the element of a descriptor is, from the number of its name -/
def el (m nst lv : Int32) : Int32 := if m < 0 then (if nst = 0 then (-1) else (-4)) else if 9 ≤ m then f_B_arrayOf m lv else (-4)
theorem e_prim : ∀ k : Fin 25, f_B_isPrimitive (nI k.1) = 0 ↔ 9 ≤ nI k.1 := by decide +kernel
theorem e_nneg : ∀ k : Fin 25, ¬ nI k.1 < 0 := by decide +kernel
theorem e_elem (xs : List Nat) (f q lv : Nat) : ∀ d, d ≤ 25 → zg_Q_elem xs f q lv d = el (zg_M_named (xs.map nI) f q d) (f_M_nested (xs.map nI) f q) (nI lv) := by
  intro d
  induction d with
  | zero => intro _; rw [zg_Q_elem, zg_M_named, el, if_pos (show (-1 : Int32) < 0 by decide), e_nested]
  | succ d ih =>
    intro hd
    have hk : 25 - (d + 1) < 25 := by omega
    have ih := ih (by omega)
    rw [zg_Q_elem, zg_M_named, e_exact xs _ f q hk]
    by_cases h : nI (q - f) = nI (li_x (f_B_name (nI (25 - (d + 1))))).length
    · rw [if_pos h, if_pos h]
      by_cases h2 : f_Q_standsAt xs (f_B_name (nI (25 - (d + 1)))) f q = 0
      · rw [if_pos h2, if_pos h2]; exact ih
      · rw [if_neg h2, if_neg h2, el, if_neg (e_nneg ⟨_, hk⟩)]
        by_cases h3 : f_B_isPrimitive (nI (25 - (d + 1))) = 0
        · rw [if_pos h3, if_pos ((e_prim ⟨_, hk⟩).mp h3)]
        · rw [if_neg h3, if_neg (fun z => h3 ((e_prim ⟨_, hk⟩).mpr z))]
    · rw [if_neg h, if_neg h, if_pos rfl]; exact ih
theorem st_spec (L ys : List Int32) (f : Nat) : ∀ d, d ≤ L.length → (zg_M_stands L ys f d ≠ 0 ↔ ∀ j, L.length - d ≤ j → j < L.length → ys.getD (f + j) 0 = L.getD j 0) := by
  intro d
  induction d with
  | zero => intro _; exact ⟨fun _ j h1 h2 => absurd h2 (by omega), fun _ => by rw [zg_M_stands]; decide⟩
  | succ d ih =>
    intro hd
    have ih := ih (by omega)
    rw [zg_M_stands]
    by_cases h : ys.getD (f + (L.length - (d + 1))) 0 = L.getD (L.length - (d + 1)) 0
    · rw [if_pos h, ih]
      refine ⟨fun z j h1 h2 => ?_, fun z j h1 h2 => z j (by omega) h2⟩
      by_cases hj : j = L.length - (d + 1)
      · rw [hj]; exact h
      · exact z j (by omega) h2
    · rw [if_neg h]
      exact ⟨fun z => absurd rfl z, fun z => absurd (z _ (Nat.le_refl _) (by omega)) h⟩
/-- the names from 12 on begin as the class's nested names begin -/
theorem e_pre : ∀ k : Fin 25, 12 ≤ k.1 → (z_M_one (z_M_addOwn ([] : List Int32) 11) 36) = (z_M_addName ([] : List Int32) (nI k.1)).take (z_M_one (z_M_addOwn ([] : List Int32) 11) 36).length := by decide +kernel
theorem e_prelen : ∀ k : Fin 25, 12 ≤ k.1 → (z_M_one (z_M_addOwn ([] : List Int32) 11) 36).length ≤ (z_M_addName ([] : List Int32) (nI k.1)).length := by decide +kernel
theorem e_namelen : ∀ k : Fin 25, (z_M_addName ([] : List Int32) (nI k.1)).length ≤ 200 := by decide +kernel
theorem nm_nest (ys : List Int32) (f q k : Nat) (hq : q ≤ 100) (hk : k < 25) (h12 : 12 ≤ k) (h : f_M_stands (z_M_addName ([] : List Int32) (nI k)) ys f q 0 ≠ 0) : f_M_nested ys f q ≠ 0 := by
  have e1 := e_pre ⟨k, hk⟩ h12
  have e2 := e_prelen ⟨k, hk⟩ h12
  have e3 := e_namelen ⟨k, hk⟩
  simp only at e1 e2 e3
  rw [f_M_stands, if_pos rfl] at h
  rw [f_M_nested, f_M_stands, if_neg (by decide)]
  generalize z_M_one (z_M_addOwn ([] : List Int32) 11) 36 = P at *
  generalize z_M_addName ([] : List Int32) (nI k) = N at *
  by_cases hl : nI N.length = nI (q - f)
  · rw [if_pos hl] at h
    have hl2 : N.length = q - f := (nI_eq (by omega) (by omega)).mp hl
    rw [if_pos (nI_le (by omega) (by omega))]
    rw [st_spec _ _ _ _ (Nat.le_refl _)] at h ⊢
    intro j h1 h2
    rw [h j (by omega) (by omega)]
    conv => rhs; rw [e1]
    rw [List.getD_eq_getElem?_getD, List.getD_eq_getElem?_getD, List.getElem?_take, if_pos h2]
  · rw [if_neg hl] at h; exact absurd rfl h
theorem nm_cases (ys : List Int32) (f q : Nat) : ∀ d, d ≤ 25 → zg_M_named ys f q d = -1 ∨ ∃ k, k < 25 ∧ zg_M_named ys f q d = nI k ∧ f_M_stands (z_M_addName ([] : List Int32) (nI k)) ys f q 0 ≠ 0 := by
  intro d
  induction d with
  | zero => intro _; exact Or.inl rfl
  | succ d ih =>
    intro hd
    rw [zg_M_named]
    by_cases h : f_M_stands (z_M_addName ([] : List Int32) (nI (25 - (d + 1)))) ys f q 0 = 0
    · rw [if_pos h]; exact ih (by omega)
    · rw [if_neg h]; exact Or.inr ⟨_, by omega, rfl, h⟩
theorem e_arr : ∀ (t : Fin 25) (d : Fin 41), t.1 ≠ 8 → f_B_arrayOf (nI t.1) (nI d.1) = if nI d.1 ≤ 2 then 40 * nI d.1 + nI t.1 else (-3) := by decide +kernel
/-- the reference's answer about a name found -/
def sel (m nst d : Int32) : Int32 := (if m < 0 then (if nst = 0 then (-1) else (if 0 ≤ m then (if d ≤ 2 then ((40 * d) + m) else (-3)) else (-4))) else (if m ≤ 11 then (if 9 ≤ m then (if 0 ≤ m then (if d ≤ 2 then ((40 * d) + m) else (-3)) else (-4)) else (-4)) else (if nst = 0 then (-1) else (if 9 ≤ m then (if 0 ≤ m then (if d ≤ 2 then ((40 * d) + m) else (-3)) else (-4)) else (-4)))))
theorem e_small : ∀ k : Fin 25, (nI k.1 ≤ 11 ↔ k.1 ≤ 11) ∧ (9 ≤ nI k.1 ↔ 9 ≤ k.1) ∧ 0 ≤ nI k.1 := by decide +kernel
theorem e_sel (ys : List Int32) (f q d : Nat) (hq : q ≤ 100) (hd : d < 41) : el (zg_M_named ys f q 25) (f_M_nested ys f q) (nI d) = sel (zg_M_named ys f q 25) (f_M_nested ys f q) (nI d) := by
  rcases nm_cases ys f q 25 (Nat.le_refl _) with h | ⟨k, hk, h, hs⟩
  · rw [h, el, sel, if_pos (show (-1 : Int32) < 0 by decide), if_pos (show (-1 : Int32) < 0 by decide), if_neg (show ¬ (0 : Int32) ≤ -1 by decide)]
  · have ⟨s1, s2, s3⟩ := e_small ⟨k, hk⟩
    simp only at s1 s2 s3
    rw [h, el, sel, if_neg (e_nneg ⟨k, hk⟩), if_neg (e_nneg ⟨k, hk⟩), if_pos s3]
    by_cases h9 : 9 ≤ k
    · rw [if_pos (s2.mpr h9), if_pos (s2.mpr h9), e_arr ⟨k, hk⟩ ⟨d, hd⟩ (by simp only; omega)]
      by_cases h11 : k ≤ 11
      · rw [if_pos (s1.mpr h11)]
      · rw [if_neg (fun z => h11 (s1.mp z)), if_neg (nm_nest ys f q k hq hk (by omega) hs)]
    · rw [if_neg (fun z => h9 (s2.mp z)), if_neg (fun z => h9 (s2.mp z)), if_pos (s1.mpr (by omega))]
def cd (c : Int32) : Nat → Int32 → Int32
  | 0, t => t
  | k + 1, t => if c = (f_M_sign (nI (8 - (k + 1)))) then cd c k (nI (8 - (k + 1))) else cd c k t
theorem cd_of (ys : List Int32) (d n : Nat) (h : nI (n - d) = 1) : ∀ k t, zg_M_code ys d n k t = cd (ys.getD d 0) k t := by
  intro k
  induction k with
  | zero => intro t; rfl
  | succ k ih => intro t; rw [zg_M_code, cd, if_pos h, ih, ih]
theorem e_cd : ∀ c : Fin 128, if f_ix c.1 < 0 ∨ f_ix c.1 = 8 then cd (nI c.1) 8 (-1) = -1 else ∃ k : Fin 8, f_ix c.1 = nI k.1 ∧ cd (nI c.1) 8 (-1) = nI k.1 := by decide +kernel
theorem e_code (xs : List Nat) (d : Nat) (h8 : ∀ x ∈ xs, x < 128) (h40 : xs.length ≤ 40) (hd : d ≤ xs.length) (h1 : xs.length - d ≤ 1) : f_Q_code xs d = (if 0 ≤ (zg_M_code (xs.map nI) d xs.length 8 (-1)) then (if (nI d) ≤ 2 then ((40 * (nI d)) + (zg_M_code (xs.map nI) d xs.length 8 (-1))) else (-3)) else (-4)) := by
  by_cases he : d = xs.length
  · have hc0 : zg_M_code (xs.map nI) d xs.length 8 (-1) = -1 := by
      rw [zg_M_code, if_neg (show ¬ nI (xs.length - d) = 1 by rw [he, Nat.sub_self]; decide)]
    rw [f_Q_code, if_pos (show nI d = nI xs.length by rw [he]), hc0, if_neg (show ¬ (0 : Int32) ≤ -1 by decide)]
  · have hne : ¬ nI d = nI xs.length := fun z => he ((nI_eq (by omega) (by omega)).mp z)
    have hlt : d < xs.length := by omega
    have hc : xs.getD d 0 < 128 := by
      rw [List.getD_eq_getElem?_getD, List.getElem?_eq_getElem hlt]
      exact h8 _ (List.getElem_mem hlt)
    have e := e_cd ⟨_, hc⟩
    simp only at e
    rw [f_Q_code, if_neg hne, cd_of _ _ _ (by rw [show xs.length - d = 1 by omega]; rfl), mp_getD]
    by_cases hz : f_ix (xs.getD d 0) < 0 ∨ f_ix (xs.getD d 0) = 8
    · rw [if_pos hz] at e
      rw [e, if_neg (show ¬ (0 : Int32) ≤ -1 by decide)]
      rcases hz with z | z
      · rw [if_pos z]
      · rw [z, if_neg (by decide), if_pos rfl]
    · rw [if_neg hz] at e
      obtain ⟨k, e1, e2⟩ := e
      have hk : k.1 < 25 := by omega
      rw [if_neg (fun z => hz (Or.inl z)), if_neg (fun z => hz (Or.inr z)), e1, e2, if_pos (e_small ⟨k.1, hk⟩).2.2]
      exact e_arr ⟨k.1, hk⟩ ⟨d, by omega⟩ (by simp only; omega)
theorem e_search (xs : List Nat) (d : Nat) (h8 : ∀ x ∈ xs, x < 128) (h40 : xs.length ≤ 40) (hd : d ≤ xs.length) : fd_Q_lookUp xs d = f_M_search (xs.map nI) d xs.length := by
  have hsel : ∀ f q, q ≤ xs.length → zg_Q_elem xs f q d 25 = sel (zg_M_named (xs.map nI) f q 25) (f_M_nested (xs.map nI) f q) (nI d) := fun f q hq => by
    rw [e_elem xs f q d 25 (Nat.le_refl _), e_sel _ _ _ _ (by omega) (by omega)]
  have g1 : nI (xs.length - d) ≤ 1 ↔ xs.length - d ≤ 1 := nI_leI (b := 1) (by omega) (by decide)
  have g2 : nI (xs.length - d) ≤ 2 ↔ xs.length - d ≤ 2 := nI_leI (b := 2) (by omega) (by decide)
  have g3 : 2 ≤ nI (xs.length - d) ↔ 2 ≤ xs.length - d := nI_leI (a := 2) (by decide) (by omega)
  have rest : f_M_elem (xs.map nI) d xs.length = 0 → (if 2 ≤ (nI (xs.length - d)) then (-1) else (f_Q_code xs d)) = f_M_search (xs.map nI) d xs.length := fun h => by
    rw [f_M_search, if_pos h]
    by_cases h2 : 2 ≤ xs.length - d
    · rw [if_pos (g3.mpr h2), if_neg (fun z => by have := g1.mp z; omega)]
    · rw [if_neg (fun z => h2 (g3.mp z)), if_pos (g1.mpr (by omega)), e_code xs d h8 h40 hd (by omega)]
  rw [fd_Q_lookUp]
  by_cases h0 : nI d = 0
  · have hd0 : d = 0 := (nI_eq (b := 0) (by omega) (by decide)).mp h0
    subst hd0
    rw [if_pos h0, hsel _ _ (Nat.le_refl _), f_M_search, show f_M_elem (xs.map nI) 0 xs.length = 1 by rw [f_M_elem, if_pos h0], if_neg (show ¬ (1 : Int32) = 0 by decide), if_pos h0]
    rfl
  · rw [if_neg h0]
    by_cases h2 : nI (xs.length - d) ≤ 2
    · rw [if_pos h2]
      exact rest (by rw [f_M_elem, if_neg h0, if_pos h2])
    · rw [if_neg h2]
      by_cases h3 : nI (xs.getD d 0) = 76
      · rw [if_pos h3]
        by_cases h4 : nI (xs.getD (xs.length - 1) 0) = 59
        · have hel : f_M_elem (xs.map nI) d xs.length = 1 := by
            rw [f_M_elem, if_neg h0, if_neg h2, mp_getD, mp_getD, if_pos h3, if_pos h4]
          rw [if_pos h4, hsel _ _ (by omega), f_M_search, hel, if_neg (show ¬ (1 : Int32) = 0 by decide), if_neg h0]
          rfl
        · rw [if_neg h4]
          exact rest (by rw [f_M_elem, if_neg h0, if_neg h2, mp_getD, mp_getD, if_pos h3, if_neg h4])
      · rw [if_neg h3]
        exact rest (by rw [f_M_elem, if_neg h0, if_neg h2, mp_getD, if_neg h3])
theorem e_find0 (xs : List Nat) : ∀ d, zg_M_find (xs.map nI) d = f_M_search (xs.map nI) (zn_Q_countLevels xs d) xs.length := by
  intro d
  induction d with
  | zero => rw [zg_M_find, zn_Q_countLevels, List.length_map]
  | succ d ih =>
    rw [zg_M_find, zn_Q_countLevels, ih, mp_getD, List.length_map]
    split <;> rfl
/-- find answers alike -/
theorem e_find (xs : List Nat) (h8 : ∀ x ∈ xs, x < 128) (h40 : xs.length ≤ 40) : f_Q_lookUp xs = zg_M_find (xs.map nI) (xs.map nI).length := by
  rw [f_Q_lookUp, e_find0, List.length_map]
  exact e_search xs _ h8 h40 (zn_cl_le xs _ (Nat.le_refl _))
