theorem li_ok : ∀ i : Nat, i < 41 → ∀ x ∈ li_x i, x < 128 := by decide +kernel
theorem li_40 : ∀ i : Nat, i < 41 → (li_x i).length ≤ 21 := by decide +kernel
theorem li_ch {i : Nat} (hi : i < 41) (j : Nat) : (li_x i).getD j 0 < 128 := by
  by_cases h : j < (li_x i).length
  · have h1 : (li_x i).getD j 0 ∈ li_x i := by
      rw [List.getD_eq_getElem?_getD, List.getElem?_eq_getElem h]
      exact List.getElem_mem h
    exact li_ok i hi _ h1
  · rw [List.getD_eq_getElem?_getD, List.getElem?_eq_none (by omega)]
    decide
theorem li_fit {i : Nat} (hi : i < 41) (j : Nat) : fits .byte (.int (li_c i j)) = true := (j_b7 _ (li_ch hi j)).2.2.1
theorem tx_app {xs : List Nat} {cp cp' : Nat} {a f : Nat → Int32} {i : Nat} (hi : i < 41) (h : tx xs cp a) (hl : xs.length + (li_x i).length ≤ cp') (h16 : 16 ≤ cp') (h142 : cp' ≤ 142) (hf : sb_Fit f) (hk : ∀ j, j < cp → f j = a j) : tx (xs ++ li_x i) cp' (va_cpy (fun j => li_c i j) f 0 xs.length (li_x i).length) := by
  obtain ⟨h1, h2, h3, h4, h5, h6⟩ := h
  refine ⟨by rw [List.length_append]; exact hl, h16, h142, sb_fitC (fun j => li_fit hi j) hf, fun x hx => ?_, fun j hj => ?_⟩
  · rcases List.mem_append.mp hx with q | q
    · exact h5 x q
    · exact li_ok i hi x q
  · rw [List.length_append] at hj
    by_cases e : j < xs.length
    · rw [pk_cpy_out (by omega), hk j (by omega), h6 j e]
      simp [List.getD, List.getElem?_append_left e]
    · rw [pk_cpy_in (by omega) (by omega), Nat.zero_add]
      show nI ((li_x i).getD (j - xs.length) 0) = _
      simp [List.getD, List.getElem?_append_right (show xs.length ≤ j by omega)]
set_option maxRecDepth 100000 in
theorem k_St_coder : ck y_St_coder b_St_coder 1 (some .byte) 0 (.instanceMethod y_St_coder) := ⟨tk_of (List.mem_of_getElem? (i := 337) rfl) rfl, tk_of (List.mem_of_getElem? (i := 335) (by decide +kernel)) rfl, tk_of (List.mem_of_getElem? (i := 40) (by decide +kernel)) rfl, by decide +kernel⟩
theorem fl_St_38 : Cond.fieldLink R_St 38 R_St "COMPACT_STRINGS" "Z" ∈ tk := tk_of (List.mem_of_getElem? (i := 286) (by decide +kernel)) rfl
theorem fl_St_15 : Cond.fieldLink R_St 15 R_St "coder" "B" ∈ tk := tk_of (List.mem_of_getElem? (i := 917) (by decide +kernel)) rfl
set_option maxHeartbeats 4000000 in
set_option maxRecDepth 100000 in
theorem c_St_coder (g : gT) (l : Launch) (sz : Nat) (i : Nat) (hi : i < 41) : Mg g l y_St_coder b_St_coder 1 (some .byte) 0 0 0 0 [.ref (gK g i)] [] sz (qI g (fun r w1 => r = 0 ∧ w1 = [])) := by
  refine mg_of (by decide) (Nat.le_of_ble_eq_true rfl) ?_
  intro p e s m below meth c ls A hx hb hF hr hlk hnm hA G hP hD hS hl
  have hK := G.2.1
  have hN := G.1
  have hl : lv_has ls 1 [(0, .ref (gK g i))] := hl
  refine va_gets hx hb G.2.2.2.2.1 hS hF.2.2.2.1 (hF.2.2.2.2 _ fl_St_38) (fun _ h9 => h9) d_St_coder_0 ?_
  refine lv_if_eq (tgt := 13) hx hb d_St_coder_3 (by decide) (fun c_1 => ?_) (fun c_1 => ?_)
  · exact absurd c_1 (by decide)
  · skip
    refine lv_aload_n hx hb d_St_coder_6 rfl (lv_at hl 0 rfl) ?_
    refine vk_getf hx hb (G.2.2.2.1 i hi).2.1 hS hF.2.2.2.1 (hF.2.2.2.2 _ fl_St_15) (fun _ h9 => h9) d_St_coder_7 ?_
    refine lv_goto (tgt := 14) hx hb d_St_coder_10 (by decide) ?_
    exact ret_i hx hb hr hlk hP hD hS (by decide) ⟨rfl, rfl⟩ (by first | exact Nat.le_of_ble_eq_true rfl | (dsimp only; omega) | omega) (by first | exact Nat.le_of_ble_eq_true rfl | (dsimp only; omega) | omega) d_St_coder_14
set_option maxRecDepth 100000 in
theorem k_St_length : ck y_St_length b_St_length 1 (some .int) 0 (.instanceMethod y_St_length) := ⟨tk_of (List.mem_of_getElem? (i := 333) rfl) rfl, tk_of (List.mem_of_getElem? (i := 331) (by decide +kernel)) rfl, tk_of (List.mem_of_getElem? (i := 40) (by decide +kernel)) rfl, by decide +kernel⟩
theorem fl_St_9 : Cond.fieldLink R_St 9 R_St "value" "[B" ∈ tk := tk_of (List.mem_of_getElem? (i := 918) (by decide +kernel)) rfl
theorem j_St_335 : Cond.methodLink R_St 335 y_St_coder ∈ tk := tk_of (List.mem_of_getElem? (i := 334) (by decide +kernel)) rfl
theorem se_St_St_coder : Cond.selects R_St y_St_coder y_St_coder ∈ tk := tk_of (List.mem_of_getElem? (i := 336) (by decide +kernel)) rfl
set_option maxHeartbeats 4000000 in
set_option maxRecDepth 100000 in
theorem c_St_length (g : gT) (l : Launch) (sz : Nat) (i : Nat) (hi : i < 41) : Mg g l y_St_length b_St_length 1 (some .int) 1 20 0 0 [.ref (gK g i)] [] sz (qI g (fun r w1 => r = nI (li_x i).length ∧ w1 = [])) := by
  refine mg_of (by decide) (Nat.le_of_ble_eq_true rfl) ?_
  intro p e s m below meth c ls A hx hb hF hr hlk hnm hA G hP hD hS hl
  have hK := G.2.1
  have hN := G.1
  have hl : lv_has ls 1 [(0, .ref (gK g i))] := hl
  refine lv_aload_n hx hb d_St_length_0 rfl (lv_at hl 0 rfl) ?_
  refine vk_getf hx hb (G.2.2.2.1 i hi).2.2.1 hS hF.2.2.2.1 (hF.2.2.2.2 _ fl_St_9) (fun _ h9 => h9) d_St_length_1 ?_
  refine va_tlen hx hb (G.2.2.2.1 i hi).2.2.2 hS (v := nI (li_x i).length) rfl d_St_length_4 ?_
  refine lv_aload_n hx hb d_St_length_5 rfl (lv_at hl 0 rfl) ?_
  refine go_i (wr := []) (run_V hF (c_St_coder g l _ i hi) k_St_coder j_St_335 se_St_St_coder (va_Orecv (G.2.2.2.1 i hi).1 hS) (cw_down G hP hD hS hA [] rfl rfl) ⟨Nat.le_of_ble_eq_true rfl, Nat.le_of_ble_eq_true rfl⟩ rfl hl.1 (Nat.le_of_ble_eq_true rfl) d_St_length_6 ⟨(by first | exact Nat.le_of_ble_eq_true rfl | (dsimp only; omega) | omega), (by first | exact Nat.le_of_ble_eq_true rfl | (dsimp only; omega) | omega)⟩) hP hD hS hA [] [] rfl rfl rfl (by decide) (fun r_1 w1 H locs hp hP hD hS => ?_)
  obtain ⟨rfl, rfl⟩ := hp
  have hP : va_P (gD g) classes [] H := hP
  have hD : va_D A [] := hD
  refine lv_ishr hx hb d_St_length_9 ?_
  refine tp_i (sb_shr0 _) ?_
  exact ret_i hx hb hr hlk hP hD hS (nar_i _) ⟨rfl, rfl⟩ (by first | exact Nat.le_of_ble_eq_true rfl | (dsimp only; omega) | omega) (by first | exact Nat.le_of_ble_eq_true rfl | (dsimp only; omega) | omega) d_St_length_10
set_option maxRecDepth 100000 in
theorem k_St_isLatin1 : ck y_St_isLatin1 b_St_isLatin1 1 (some .boolean) 0 (.instanceMethod y_St_isLatin1) := ⟨tk_of (List.mem_of_getElem? (i := 285) rfl) rfl, tk_of (List.mem_of_getElem? (i := 283) (by decide +kernel)) rfl, tk_of (List.mem_of_getElem? (i := 40) (by decide +kernel)) rfl, by decide +kernel⟩
set_option maxHeartbeats 4000000 in
set_option maxRecDepth 100000 in
theorem c_St_isLatin1 (g : gT) (l : Launch) (sz : Nat) (i : Nat) (hi : i < 41) : Mg g l y_St_isLatin1 b_St_isLatin1 1 (some .boolean) 0 0 0 0 [.ref (gK g i)] [] sz (qI g (fun r w1 => r = 1 ∧ w1 = [])) := by
  refine mg_of (by decide) (Nat.le_of_ble_eq_true rfl) ?_
  intro p e s m below meth c ls A hx hb hF hr hlk hnm hA G hP hD hS hl
  have hK := G.2.1
  have hN := G.1
  have hl : lv_has ls 1 [(0, .ref (gK g i))] := hl
  refine va_gets hx hb G.2.2.2.2.1 hS hF.2.2.2.1 (hF.2.2.2.2 _ fl_St_38) (fun _ h9 => h9) d_St_isLatin1_0 ?_
  refine lv_if_eq (tgt := 17) hx hb d_St_isLatin1_3 (by decide) (fun c_1 => ?_) (fun c_1 => ?_)
  · exact absurd c_1 (by decide)
  · skip
    refine lv_aload_n hx hb d_St_isLatin1_6 rfl (lv_at hl 0 rfl) ?_
    refine vk_getf hx hb (G.2.2.2.1 i hi).2.1 hS hF.2.2.2.1 (hF.2.2.2.2 _ fl_St_15) (fun _ h9 => h9) d_St_isLatin1_7 ?_
    refine lv_if_ne (tgt := 17) hx hb d_St_isLatin1_10 (by decide) (fun c_2 => ?_) (fun c_2 => ?_)
    · exact absurd c_2 (by decide)
    · skip
      refine lv_iconst (v := 1) hx hb d_St_isLatin1_13 (by decide) ?_
      refine lv_goto (tgt := 18) hx hb d_St_isLatin1_14 (by decide) ?_
      exact ret_i hx hb hr hlk hP hD hS (by decide) ⟨rfl, rfl⟩ (by first | exact Nat.le_of_ble_eq_true rfl | (dsimp only; omega) | omega) (by first | exact Nat.le_of_ble_eq_true rfl | (dsimp only; omega) | omega) d_St_isLatin1_18
set_option maxRecDepth 100000 in
theorem k_L1_charAt : ck y_L1_charAt b_L1_charAt 2 (some .char) 2 (.static y_L1_charAt) := ⟨tk_of (List.mem_of_getElem? (i := 289) rfl) rfl, tk_of (List.mem_of_getElem? (i := 288) (by decide +kernel)) rfl, tk_of (List.mem_of_getElem? (i := 49) (by decide +kernel)) rfl, by decide +kernel⟩
theorem j_L1_9 : Cond.methodLink R_L1 9 y_St_checkIndex ∈ tk := tk_of (List.mem_of_getElem? (i := 290) (by decide +kernel)) rfl
set_option maxHeartbeats 4000000 in
set_option maxRecDepth 100000 in
theorem c_L1_charAt (g : gT) (l : Launch) (sz : Nat) (i : Nat) (hi : i < 41) (j : Nat) (hj : j < (li_x i).length) : Mg g l y_L1_charAt b_L1_charAt 2 (some .char) 2 43 0 0 [.ref (gV g i), .int (nI j)] [] sz (qI g (fun r w1 => r = nI ((li_x i).getD j 0) ∧ w1 = [])) := by
  refine mg_of (by decide) (Nat.le_of_ble_eq_true rfl) ?_
  intro p e s m below meth c ls A hx hb hF hr hlk hnm hA G hP hD hS hl
  have hK := G.2.1
  have hN := G.1
  have hl : lv_has ls 2 [(0, .ref (gV g i)), (1, .int (nI j))] := hl
  have hch := li_ch hi j
  have h21 := li_40 i hi
  refine lv_iload_n hx hb d_L1_charAt_0 rfl (lv_at hl 1 rfl) ?_
  refine lv_aload_n hx hb d_L1_charAt_1 rfl (lv_at hl 0 rfl) ?_
  refine va_tlen hx hb (G.2.2.2.1 i hi).2.2.2 hS (v := nI (li_x i).length) rfl d_L1_charAt_2 ?_
  refine go_v (wr := []) (run_S hF (c_St_checkIndex g l _ (nI j) (nI (li_x i).length) (nI_pos (by omega)) (nI_lt hj (by omega))) k_St_checkIndex j_L1_9 (cw_down G hP hD hS hA [] rfl rfl) ⟨Nat.le_of_ble_eq_true rfl, Nat.le_of_ble_eq_true rfl⟩ rfl hl.1 (Nat.le_of_ble_eq_true rfl) d_L1_charAt_3 ⟨(by first | exact Nat.le_of_ble_eq_true rfl | (dsimp only; omega) | omega), (by first | exact Nat.le_of_ble_eq_true rfl | (dsimp only; omega) | omega)⟩) hP hD hS hA [] [] rfl rfl rfl (by decide) (fun w1 H locs hp hP hD hS => ?_)
  obtain rfl := hp
  have hP : va_P (gD g) classes [] H := hP
  have hD : va_D A [] := hD
  refine lv_aload_n hx hb d_L1_charAt_6 rfl (lv_at hl 0 rfl) ?_
  refine lv_iload_n hx hb d_L1_charAt_7 rfl (lv_at hl 1 rfl) ?_
  refine va_tb hx hb (G.2.2.2.1 i hi).2.2.2 hS (vp_in_nI (n := j) hj (by omega)) (v := .int (nI ((li_x i).getD j 0))) (by rw [nI_clamp (by omega)]; rfl) d_L1_charAt_8 ?_
  refine lv_sipush (v := 255) hx hb d_L1_charAt_9 (by decide) ?_
  refine lv_iand hx hb d_L1_charAt_12 ?_
  refine tp_i (j_b7 _ hch).2.2.2.2.1 ?_
  refine lv_i2c hx hb d_L1_charAt_13 rfl ?_
  refine tp_i (j_b7 _ hch).2.2.2.2.2 ?_
  exact ret_i hx hb hr hlk hP hD hS (pk_charN (by omega)).1 ⟨rfl, rfl⟩ (by first | exact Nat.le_of_ble_eq_true rfl | (dsimp only; omega) | omega) (by first | exact Nat.le_of_ble_eq_true rfl | (dsimp only; omega) | omega) d_L1_charAt_14
set_option maxRecDepth 100000 in
theorem k_St_charAt : ck y_St_charAt b_St_charAt 2 (some .char) 1 (.instanceMethod y_St_charAt) := ⟨tk_of (List.mem_of_getElem? (i := 281) rfl) rfl, tk_of (List.mem_of_getElem? (i := 279) (by decide +kernel)) rfl, tk_of (List.mem_of_getElem? (i := 40) (by decide +kernel)) rfl, by decide +kernel⟩
theorem j_St_492 : Cond.methodLink R_St 492 y_St_isLatin1 ∈ tk := tk_of (List.mem_of_getElem? (i := 282) (by decide +kernel)) rfl
theorem se_St_St_isLatin1 : Cond.selects R_St y_St_isLatin1 y_St_isLatin1 ∈ tk := tk_of (List.mem_of_getElem? (i := 284) (by decide +kernel)) rfl
theorem j_St_495 : Cond.methodLink R_St 495 y_L1_charAt ∈ tk := tk_of (List.mem_of_getElem? (i := 287) (by decide +kernel)) rfl
set_option maxHeartbeats 4000000 in
set_option maxRecDepth 100000 in
theorem c_St_charAt (g : gT) (l : Launch) (sz : Nat) (i : Nat) (hi : i < 41) (j : Nat) (hj : j < (li_x i).length) : Mg g l y_St_charAt b_St_charAt 2 (some .char) 3 64 0 0 [.ref (gK g i), .int (nI j)] [] sz (qI g (fun r w1 => r = nI ((li_x i).getD j 0) ∧ w1 = [])) := by
  refine mg_of (by decide) (Nat.le_of_ble_eq_true rfl) ?_
  intro p e s m below meth c ls A hx hb hF hr hlk hnm hA G hP hD hS hl
  have hK := G.2.1
  have hN := G.1
  have hl : lv_has ls 2 [(0, .ref (gK g i)), (1, .int (nI j))] := hl
  have hch := li_ch hi j
  refine lv_aload_n hx hb d_St_charAt_0 rfl (lv_at hl 0 rfl) ?_
  refine go_i (wr := []) (run_V hF (c_St_isLatin1 g l _ i hi) k_St_isLatin1 j_St_492 se_St_St_isLatin1 (va_Orecv (G.2.2.2.1 i hi).1 hS) (cw_down G hP hD hS hA [] rfl rfl) ⟨Nat.le_of_ble_eq_true rfl, Nat.le_of_ble_eq_true rfl⟩ rfl hl.1 (Nat.le_of_ble_eq_true rfl) d_St_charAt_1 ⟨(by first | exact Nat.le_of_ble_eq_true rfl | (dsimp only; omega) | omega), (by first | exact Nat.le_of_ble_eq_true rfl | (dsimp only; omega) | omega)⟩) hP hD hS hA [] [] rfl rfl rfl (by decide) (fun r_1 w1 H locs hp hP hD hS => ?_)
  obtain ⟨rfl, rfl⟩ := hp
  have hP : va_P (gD g) classes [] H := hP
  have hD : va_D A [] := hD
  refine lv_if_eq (tgt := 16) hx hb d_St_charAt_4 (by decide) (fun c_2 => ?_) (fun c_2 => ?_)
  · exact absurd c_2 (by decide)
  · skip
    refine lv_aload_n hx hb d_St_charAt_7 rfl (lv_at hl 0 rfl) ?_
    refine vk_getf hx hb (G.2.2.2.1 i hi).2.2.1 hS hF.2.2.2.1 (hF.2.2.2.2 _ fl_St_9) (fun _ h9 => h9) d_St_charAt_8 ?_
    refine lv_iload_n hx hb d_St_charAt_11 rfl (lv_at hl 1 rfl) ?_
    refine go_i (wr := []) (run_S hF (c_L1_charAt g l _ i hi j hj) k_L1_charAt j_St_495 (cw_down G hP hD hS hA [] rfl rfl) ⟨Nat.le_of_ble_eq_true rfl, Nat.le_of_ble_eq_true rfl⟩ rfl hl.1 (Nat.le_of_ble_eq_true rfl) d_St_charAt_12 ⟨(by first | exact Nat.le_of_ble_eq_true rfl | (dsimp only; omega) | omega), (by first | exact Nat.le_of_ble_eq_true rfl | (dsimp only; omega) | omega)⟩) hP hD hS hA [] [] rfl rfl rfl (by decide) (fun r_3 w1 H locs hp hP hD hS => ?_)
    obtain ⟨rfl, rfl⟩ := hp
    have hP : va_P (gD g) classes [] H := hP
    have hD : va_D A [] := hD
    exact ret_i hx hb hr hlk hP hD hS (pk_charN (by omega)).1 ⟨rfl, rfl⟩ (by first | exact Nat.le_of_ble_eq_true rfl | (dsimp only; omega) | omega) (by first | exact Nat.le_of_ble_eq_true rfl | (dsimp only; omega) | omega) d_St_charAt_15
set_option maxRecDepth 100000 in
theorem k_A_inflateIfNeededFor : ck y_A_inflateIfNeededFor b_A_inflateIfNeededFor 2 (none) 1 (.instanceMethod y_A_inflateIfNeededFor) := ⟨tk_of (List.mem_of_getElem? (i := 369) rfl) rfl, tk_of (List.mem_of_getElem? (i := 368) (by decide +kernel)) rfl, tk_of (List.mem_of_getElem? (i := 38) (by decide +kernel)) rfl, by decide +kernel⟩
theorem j_A_40 : Cond.methodLink R_A 40 y_St_coder ∈ tk := tk_of (List.mem_of_getElem? (i := 370) (by decide +kernel)) rfl
set_option maxHeartbeats 4000000 in
set_option maxRecDepth 100000 in
theorem c_A_inflateIfNeededFor (g : gT) (l : Launch) (sz : Nat) (b v n cp : Nat) (ml : Int32) (a : Nat → Int32) (i : Nat) (hi : i < 41) : Mg g l y_A_inflateIfNeededFor b_A_inflateIfNeededFor 2 (none) 1 20 0 0 [.ref b, .ref (gK g i)] [(b, .inr (3, [.ref v, .int 0, .int ml, .int (nI n)])), (v, .inl (gB g, cp, .inl a))] sz (qV g (fun w1 => w1 = [(b, .inr (3, [.ref v, .int 0, .int ml, .int (nI n)])), (v, .inl (gB g, cp, .inl a))])) := by
  refine mg_of (by decide) (Nat.le_of_ble_eq_true rfl) ?_
  intro p e s m below meth c ls A hx hb hF hr hlk hnm hA G hP hD hS hl
  have hK := G.2.1
  have hN := G.1
  have hl : lv_has ls 2 [(0, .ref b), (1, .ref (gK g i))] := hl
  refine va_gets hx hb G.2.2.2.2.1 hS hF.2.2.2.1 (hF.2.2.2.2 _ fl_A_18) (fun _ h9 => h9) d_A_inflateIfNeededFor_0 ?_
  refine lv_if_eq (tgt := 21) hx hb d_A_inflateIfNeededFor_3 (by decide) (fun c_1 => ?_) (fun c_1 => ?_)
  · exact absurd c_1 (by decide)
  · skip
    refine lv_aload_n hx hb d_A_inflateIfNeededFor_6 rfl (lv_at hl 0 rfl) ?_
    refine va_get (D := gD g) (ci := 3) (v := .int 0) (C := R_SB) (T := F_SB) (N := 4) hx hb hF.2.2.2.2 in_SB hF.2.2.2.1 hK hP 0 rfl rfl 1 (by decide) (hF.2.2.2.2 _ fl_A_22) (fun _ h9 => h9) rfl d_A_inflateIfNeededFor_7 ?_
    refine lv_aload_n hx hb d_A_inflateIfNeededFor_10 rfl (lv_at hl 1 rfl) ?_
    refine go_i (wr := [(b, .inr (3, [.ref v, .int 0, .int ml, .int (nI n)])), (v, .inl (gB g, cp, .inl a))]) (run_V hF (c_St_coder g l _ i hi) k_St_coder j_A_40 se_St_St_coder (va_Orecv (G.2.2.2.1 i hi).1 hS) (cw_down G hP hD hS hA [] rfl rfl) ⟨Nat.le_of_ble_eq_true rfl, Nat.le_of_ble_eq_true rfl⟩ rfl hl.1 (Nat.le_of_ble_eq_true rfl) d_A_inflateIfNeededFor_11 ⟨(by first | exact Nat.le_of_ble_eq_true rfl | (dsimp only; omega) | omega), (by first | exact Nat.le_of_ble_eq_true rfl | (dsimp only; omega) | omega)⟩) hP hD hS hA [] [0, 1] rfl rfl rfl (by decide) (fun r_2 w1 H locs hp hP hD hS => ?_)
    obtain ⟨rfl, rfl⟩ := hp
    have hP : va_P (gD g) classes [(b, .inr (3, [.ref v, .int 0, .int ml, .int (nI n)])), (v, .inl (gB g, cp, .inl a))] H := hP
    have hD : va_D A [(b, .inr (3, [.ref v, .int 0, .int ml, .int (nI n)])), (v, .inl (gB g, cp, .inl a))] := hD
    refine lv_icmp_eq (tgt := 21) hx hb d_A_inflateIfNeededFor_14 (by decide) (fun c_3 => ?_) (fun c_3 => ?_)
    · skip
      exact ret_v hx hb hr hlk hP hD hS rfl (by first | exact Nat.le_of_ble_eq_true rfl | (dsimp only; omega) | omega) (by first | exact Nat.le_of_ble_eq_true rfl | (dsimp only; omega) | omega) d_A_inflateIfNeededFor_21
    · exact absurd c_3 (by decide)
set_option maxRecDepth 100000 in
theorem k_St_getBytes : ck y_St_getBytes b_St_getBytes 4 (none) 3 (.instanceMethod y_St_getBytes) := ⟨tk_of (List.mem_of_getElem? (i := 374) rfl) rfl, tk_of (List.mem_of_getElem? (i := 372) (by decide +kernel)) rfl, tk_of (List.mem_of_getElem? (i := 40) (by decide +kernel)) rfl, by decide +kernel⟩
theorem jm_St_212 : Cond.methodLink R_St 212 arraycopyName ∈ tk := tk_of (List.mem_of_getElem? (i := 375) (by decide +kernel)) rfl
set_option maxHeartbeats 4000000 in
set_option maxRecDepth 100000 in
theorem c_St_getBytes (g : gT) (l : Launch) (sz : Nat) (v n cp : Nat) (a : Nat → Int32) (i : Nat) (hi : i < 41) (hn : n + (li_x i).length ≤ cp) (hcp : cp ≤ 1000) : Mg g l y_St_getBytes b_St_getBytes 4 (none) 1 60 0 0 [.ref (gK g i), .ref v, .int (nI n), .int 0] [(v, .inl (gB g, cp, .inl a))] sz (qV g (fun w1 => w1 = [(v, .inl (gB g, cp, .inl (va_cpy (fun j => li_c i j) a 0 n (li_x i).length)))])) := by
  refine mg_of (by decide) (Nat.le_of_ble_eq_true rfl) ?_
  intro p e s m below meth c ls A hx hb hF hr hlk hnm hA G hP hD hS hl
  have hK := G.2.1
  have hN := G.1
  have hl : lv_has ls 4 [(0, .ref (gK g i)), (1, .ref v), (2, .int (nI n)), (3, .int 0)] := hl
  have h21 := li_40 i hi
  refine lv_aload_n hx hb d_St_getBytes_0 rfl (lv_at hl 0 rfl) ?_
  refine go_i (wr := [(v, .inl (gB g, cp, .inl a))]) (run_V hF (c_St_coder g l _ i hi) k_St_coder j_St_335 se_St_St_coder (va_Orecv (G.2.2.2.1 i hi).1 hS) (cw_down G hP hD hS hA [] rfl rfl) ⟨Nat.le_of_ble_eq_true rfl, Nat.le_of_ble_eq_true rfl⟩ rfl hl.1 (Nat.le_of_ble_eq_true rfl) d_St_getBytes_1 ⟨(by first | exact Nat.le_of_ble_eq_true rfl | (dsimp only; omega) | omega), (by first | exact Nat.le_of_ble_eq_true rfl | (dsimp only; omega) | omega)⟩) hP hD hS hA [] [0] rfl rfl rfl (by decide) (fun r_1 w1 H locs hp hP hD hS => ?_)
  obtain ⟨rfl, rfl⟩ := hp
  have hP : va_P (gD g) classes [(v, .inl (gB g, cp, .inl a))] H := hP
  have hD : va_D A [(v, .inl (gB g, cp, .inl a))] := hD
  refine lv_iload_n hx hb d_St_getBytes_4 rfl (lv_at hl 3 rfl) ?_
  refine lv_icmp_ne (tgt := 28) hx hb d_St_getBytes_5 (by decide) (fun c_2 => ?_) (fun c_2 => ?_)
  · exact absurd c_2 (by decide)
  · skip
    refine lv_aload_n hx hb d_St_getBytes_8 rfl (lv_at hl 0 rfl) ?_
    refine vk_getf hx hb (G.2.2.2.1 i hi).2.2.1 hS hF.2.2.2.1 (hF.2.2.2.2 _ fl_St_9) (fun _ h9 => h9) d_St_getBytes_9 ?_
    refine lv_iconst (v := 0) hx hb d_St_getBytes_12 (by decide) ?_
    refine lv_aload_n hx hb d_St_getBytes_13 rfl (lv_at hl 1 rfl) ?_
    refine lv_iload_n hx hb d_St_getBytes_14 rfl (lv_at hl 2 rfl) ?_
    refine lv_iload_n hx hb d_St_getBytes_15 rfl (lv_at hl 3 rfl) ?_
    refine lv_ishl hx hb d_St_getBytes_16 ?_
    refine tp_i (sb_shl0 _) ?_
    refine lv_aload_n hx hb d_St_getBytes_17 rfl (lv_at hl 0 rfl) ?_
    refine vk_getf hx hb (G.2.2.2.1 i hi).2.2.1 hS hF.2.2.2.1 (hF.2.2.2.2 _ fl_St_9) (fun _ h9 => h9) d_St_getBytes_18 ?_
    refine va_tlen hx hb (G.2.2.2.1 i hi).2.2.2 hS (v := nI (li_x i).length) rfl d_St_getBytes_21 ?_
    refine vk_copyt hx hb (hF.2.2.1.trans hl.1.symm) hF.2.2.2.1 (hF.2.2.2.2 _ jm_St_212) (hF.2.2.2.2 _ jac_n) (hF.2.2.2.2 _ jac_s) (hF.2.2.2.2 _ jac_i) hK hP hD hS (f := fun j => li_c i j) (G.2.2.2.1 i hi).2.2.2 0 1 rfl rfl (by decide) (nI_pos (by omega)) (nI_pos (by omega)) (by rw [sb_cl0, nI_clamp (by omega)]; omega) (by rw [nI_clamp (by omega), nI_clamp (by omega)]; omega) (fun j _ => li_fit hi _) (Nat.le_of_ble_eq_true rfl) (Nat.le_of_ble_eq_true rfl) d_St_getBytes_22 (fun H locs hP hD hS => ?_)
    have hP : va_P (gD g) classes [(v, .inl (gB g, cp, .inl (va_cpy (fun j => li_c i j) a (0 : Int32).toNatClampNeg (nI n).toNatClampNeg (nI (li_x i).length).toNatClampNeg)))] H := hP
    have hD : va_D A [(v, .inl (gB g, cp, .inl (va_cpy (fun j => li_c i j) a (0 : Int32).toNatClampNeg (nI n).toNatClampNeg (nI (li_x i).length).toNatClampNeg)))] := hD
    refine lv_goto (tgt := 43) hx hb d_St_getBytes_25 (by decide) ?_
    exact ret_v hx hb hr hlk hP hD hS (by rw [sb_cl0, nI_clamp (n := n) (by omega), nI_clamp (n := (li_x i).length) (by omega)]) (by first | exact Nat.le_of_ble_eq_true rfl | (dsimp only; omega) | omega) (by first | exact Nat.le_of_ble_eq_true rfl | (dsimp only; omega) | omega) d_St_getBytes_43
set_option maxRecDepth 100000 in
theorem k_A_putStringAt : ck y_A_putStringAt b_A_putStringAt 3 (none) 2 (.instanceMethod y_A_putStringAt) := ⟨tk_of (List.mem_of_getElem? (i := 365) rfl) rfl, tk_of (List.mem_of_getElem? (i := 364) (by decide +kernel)) rfl, tk_of (List.mem_of_getElem? (i := 38) (by decide +kernel)) rfl, by decide +kernel⟩
theorem j_A_397 : Cond.methodLink R_A 397 y_A_inflateIfNeededFor ∈ tk := tk_of (List.mem_of_getElem? (i := 366) (by decide +kernel)) rfl
theorem sm_A_inflateIfNeededFor : Cond.sameMethod R_A R_A "inflateIfNeededFor" "(Ljava/lang/String;)V" ∈ tk := tk_of (List.mem_of_getElem? (i := 914) (by decide +kernel)) rfl
theorem se_SB_A_inflateIfNeededFor : Cond.selects R_SB y_A_inflateIfNeededFor y_A_inflateIfNeededFor ∈ tk := tk_x (List.mem_of_getElem? (i := 3) rfl) rfl
theorem j_A_399 : Cond.methodLink R_A 399 y_St_getBytes ∈ tk := tk_of (List.mem_of_getElem? (i := 371) (by decide +kernel)) rfl
theorem se_St_St_getBytes : Cond.selects R_St y_St_getBytes y_St_getBytes ∈ tk := tk_of (List.mem_of_getElem? (i := 373) (by decide +kernel)) rfl
set_option maxHeartbeats 4000000 in
set_option maxRecDepth 100000 in
theorem c_A_putStringAt (g : gT) (l : Launch) (sz : Nat) (b v n cp : Nat) (ml : Int32) (a : Nat → Int32) (i : Nat) (hi : i < 41) (hn : n + (li_x i).length ≤ cp) (hcp : cp ≤ 1000) : Mg g l y_A_putStringAt b_A_putStringAt 3 (none) 2 83 0 0 [.ref b, .int (nI n), .ref (gK g i)] [(b, .inr (3, [.ref v, .int 0, .int ml, .int (nI n)])), (v, .inl (gB g, cp, .inl a))] sz (qV g (fun w1 => w1 = [(b, .inr (3, [.ref v, .int 0, .int ml, .int (nI n)])), (v, .inl (gB g, cp, .inl (va_cpy (fun j => li_c i j) a 0 n (li_x i).length)))])) := by
  refine mg_of (by decide) (Nat.le_of_ble_eq_true rfl) ?_
  intro p e s m below meth c ls A hx hb hF hr hlk hnm hA G hP hD hS hl
  have hK := G.2.1
  have hN := G.1
  have hl : lv_has ls 3 [(0, .ref b), (1, .int (nI n)), (2, .ref (gK g i))] := hl
  refine lv_aload_n hx hb d_A_putStringAt_0 rfl (lv_at hl 0 rfl) ?_
  refine lv_aload_n hx hb d_A_putStringAt_1 rfl (lv_at hl 2 rfl) ?_
  refine go_v (wr := []) (run_U (C := R_SB) hF (c_A_inflateIfNeededFor g l _ b v n cp ml a i hi) k_A_inflateIfNeededFor j_A_397 sm_A_inflateIfNeededFor se_SB_A_inflateIfNeededFor (va_recv hK hP (ci := 3) (q0 := 0) rfl rfl) (cw_down G hP hD hS hA [0, 1] rfl rfl) ⟨Nat.le_of_ble_eq_true rfl, Nat.le_of_ble_eq_true rfl⟩ rfl hl.1 (Nat.le_of_ble_eq_true rfl) d_A_putStringAt_2 ⟨(by first | exact Nat.le_of_ble_eq_true rfl | (dsimp only; omega) | omega), (by first | exact Nat.le_of_ble_eq_true rfl | (dsimp only; omega) | omega)⟩) hP hD hS hA [0, 1] [] rfl rfl rfl (by decide) (fun w1 H locs hp hP hD hS => ?_)
  obtain rfl := hp
  have hP : va_P (gD g) classes [(b, .inr (3, [.ref v, .int 0, .int ml, .int (nI n)])), (v, .inl (gB g, cp, .inl a))] H := hP
  have hD : va_D A [(b, .inr (3, [.ref v, .int 0, .int ml, .int (nI n)])), (v, .inl (gB g, cp, .inl a))] := hD
  refine lv_aload_n hx hb d_A_putStringAt_5 rfl (lv_at hl 2 rfl) ?_
  refine lv_aload_n hx hb d_A_putStringAt_6 rfl (lv_at hl 0 rfl) ?_
  refine va_get (D := gD g) (ci := 3) (v := .ref v) (C := R_SB) (T := F_SB) (N := 4) hx hb hF.2.2.2.2 in_SB hF.2.2.2.1 hK hP 0 rfl rfl 0 (by decide) (hF.2.2.2.2 _ fl_A_15) (fun _ h9 => h9) rfl d_A_putStringAt_7 ?_
  refine lv_iload_n hx hb d_A_putStringAt_10 rfl (lv_at hl 1 rfl) ?_
  refine lv_aload_n hx hb d_A_putStringAt_11 rfl (lv_at hl 0 rfl) ?_
  refine va_get (D := gD g) (ci := 3) (v := .int 0) (C := R_SB) (T := F_SB) (N := 4) hx hb hF.2.2.2.2 in_SB hF.2.2.2.1 hK hP 0 rfl rfl 1 (by decide) (hF.2.2.2.2 _ fl_A_22) (fun _ h9 => h9) rfl d_A_putStringAt_12 ?_
  refine go_v (wr := [(b, .inr (3, [.ref v, .int 0, .int ml, .int (nI n)]))]) (run_V hF (c_St_getBytes g l _ v n cp a i hi hn hcp) k_St_getBytes j_A_399 se_St_St_getBytes (va_Orecv (G.2.2.2.1 i hi).1 hS) (cw_down G hP hD hS hA [1] rfl rfl) ⟨Nat.le_of_ble_eq_true rfl, Nat.le_of_ble_eq_true rfl⟩ rfl hl.1 (Nat.le_of_ble_eq_true rfl) d_A_putStringAt_15 ⟨(by first | exact Nat.le_of_ble_eq_true rfl | (dsimp only; omega) | omega), (by first | exact Nat.le_of_ble_eq_true rfl | (dsimp only; omega) | omega)⟩) hP hD hS hA [1] [0] rfl rfl rfl (by decide) (fun w1 H locs hp hP hD hS => ?_)
  obtain rfl := hp
  have hP : va_P (gD g) classes [(b, .inr (3, [.ref v, .int 0, .int ml, .int (nI n)])), (v, .inl (gB g, cp, .inl (va_cpy (fun j => li_c i j) a 0 n (li_x i).length)))] H := hP
  have hD : va_D A [(b, .inr (3, [.ref v, .int 0, .int ml, .int (nI n)])), (v, .inl (gB g, cp, .inl (va_cpy (fun j => li_c i j) a 0 n (li_x i).length)))] := hD
  exact ret_v hx hb hr hlk hP hD hS rfl (by first | exact Nat.le_of_ble_eq_true rfl | (dsimp only; omega) | omega) (by first | exact Nat.le_of_ble_eq_true rfl | (dsimp only; omega) | omega) d_A_putStringAt_18
set_option maxRecDepth 100000 in
theorem k_A_append_S : ck y_A_append_S b_A_append_S 3 (some (.object "java/lang/AbstractStringBuilder")) 1 (.instanceMethod y_A_append_S) := ⟨tk_of (List.mem_of_getElem? (i := 344) rfl) rfl, tk_of (List.mem_of_getElem? (i := 343) (by decide +kernel)) rfl, tk_of (List.mem_of_getElem? (i := 38) (by decide +kernel)) rfl, by decide +kernel⟩
theorem j_A_32 : Cond.methodLink R_A 32 y_St_length ∈ tk := tk_of (List.mem_of_getElem? (i := 361) (by decide +kernel)) rfl
theorem se_St_St_length : Cond.selects R_St y_St_length y_St_length ∈ tk := tk_of (List.mem_of_getElem? (i := 332) (by decide +kernel)) rfl
theorem j_A_208 : Cond.methodLink R_A 208 y_A_putStringAt ∈ tk := tk_of (List.mem_of_getElem? (i := 362) (by decide +kernel)) rfl
theorem sm_A_putStringAt : Cond.sameMethod R_A R_A "putStringAt" "(ILjava/lang/String;)V" ∈ tk := tk_of (List.mem_of_getElem? (i := 913) (by decide +kernel)) rfl
theorem se_SB_A_putStringAt : Cond.selects R_SB y_A_putStringAt y_A_putStringAt ∈ tk := tk_x (List.mem_of_getElem? (i := 2) rfl) rfl
set_option maxHeartbeats 4000000 in
set_option maxRecDepth 100000 in
theorem c_A_append_S (g : gT) (l : Launch) (sz : Nat) (b v cp : Nat) (ml : Int32) (a : Nat → Int32) (xs : List Nat) (ht : tx xs cp a) (i : Nat) (hi : i < 41) (hl70 : xs.length + (li_x i).length ≤ 70) : Mg g l y_A_append_S b_A_append_S 3 (some (.object "java/lang/AbstractStringBuilder")) 4 105 (gc (xs.length + (li_x i).length) cp) (gs (xs.length + (li_x i).length) cp) [.ref b, .ref (gK g i)] [(b, .inr (3, [.ref v, .int 0, .int ml, .int (nI xs.length)])), (v, .inl (gB g, cp, .inl a))] sz (qR g (fun r w1 => r = b ∧ ∃ (v' : Nat) (f : Nat → Int32), w1 = [(b, .inr (3, [.ref v', .int 0, .int ml, .int (nI (xs ++ li_x i).length)])), (v', .inl (gB g, (sb_cap (xs.length + (li_x i).length) cp), .inl f))] ∧ tx (xs ++ li_x i) (sb_cap (xs.length + (li_x i).length) cp) f)) := by
  refine mg_of (by decide) (Nat.le_of_ble_eq_true rfl) ?_
  intro p e s m below meth c ls A hx hb hF hr hlk hnm hA G hP hD hS hl
  have hK := G.2.1
  have hN := G.1
  have hl : lv_has ls 3 [(0, .ref b), (1, .ref (gK g i))] := hl
  have ht1 := ht.1
  have ht2 := ht.2.1
  have ht3 := ht.2.2.1
  have hcg := sb_cap_ge (xs.length + (li_x i).length) cp
  have hcm := sb_cap_gem (xs.length + (li_x i).length) cp
  have hcl := cap_le _ _ hl70 ht3
  refine lv_aload_n hx hb d_A_append_S_0 rfl (lv_at hl 1 rfl) ?_
  refine lv_ifnonnull (tgt := 9) hx hb d_A_append_S_1 (by decide) ?_
  refine lv_aload_n hx hb d_A_append_S_9 rfl (lv_at hl 1 rfl) ?_
  refine go_i (wr := [(b, .inr (3, [.ref v, .int 0, .int ml, .int (nI xs.length)])), (v, .inl (gB g, cp, .inl a))]) (run_V hF (c_St_length g l _ i hi) k_St_length j_A_32 se_St_St_length (va_Orecv (G.2.2.2.1 i hi).1 hS) (cw_down G hP hD hS hA [] rfl rfl) ⟨Nat.le_of_ble_eq_true rfl, Nat.le_of_ble_eq_true rfl⟩ rfl hl.1 (Nat.le_of_ble_eq_true rfl) d_A_append_S_10 ⟨(by first | exact Nat.le_of_ble_eq_true rfl | (dsimp only; omega) | omega), (by first | exact Nat.le_of_ble_eq_true rfl | (dsimp only; omega) | omega)⟩) hP hD hS hA [] [0, 1] rfl rfl rfl (by decide) (fun r_1 w1 H locs hp hP hD hS => ?_)
  obtain ⟨rfl, rfl⟩ := hp
  have hP : va_P (gD g) classes [(b, .inr (3, [.ref v, .int 0, .int ml, .int (nI xs.length)])), (v, .inl (gB g, cp, .inl a))] H := hP
  have hD : va_D A [(b, .inr (3, [.ref v, .int 0, .int ml, .int (nI xs.length)])), (v, .inl (gB g, cp, .inl a))] := hD
  refine lv_istore_n (lv' := [(2, .int (nI (li_x i).length)), (0, .ref b), (1, .ref (gK g i))]) hx hb d_A_append_S_13 rfl hl (by decide) rfl (fun ls hl => ?_)
  refine lv_aload_n hx hb d_A_append_S_14 rfl (lv_at hl 1 rfl) ?_
  refine lv_aload_n hx hb d_A_append_S_15 rfl (lv_at hl 1 rfl) ?_
  refine va_get (D := gD g) (ci := 3) (v := .int (nI xs.length)) (C := R_SB) (T := F_SB) (N := 4) hx hb hF.2.2.2.2 in_SB hF.2.2.2.1 hK hP 0 rfl rfl 3 (by decide) (hF.2.2.2.2 _ fl_A_79) (fun _ h9 => h9) rfl d_A_append_S_16 ?_
  refine lv_iload_n hx hb d_A_append_S_19 rfl (lv_at hl 0 rfl) ?_
  refine lv_iadd hx hb d_A_append_S_20 ?_
  refine tp_i (show ((nI xs.length) + (nI (li_x i).length)) = (nI (xs.length + (li_x i).length)) from nI_add _ _) ?_
  refine go_v (wr := []) (run_U (C := R_SB) hF (c_A_ensureCapacityInternal g l _ b v xs.length cp ml a (xs.length + (li_x i).length) (by omega) (by omega) ht.2.2.2.1) k_A_ensureCapacityInternal j_A_100 sm_A_ensureCapacityInternal se_SB_A_ensureCapacityInternal (va_recv hK hP (ci := 3) (q0 := 0) rfl rfl) (cw_down G hP hD hS hA [0, 1] rfl rfl) ⟨Nat.le_of_ble_eq_true rfl, Nat.le_of_ble_eq_true rfl⟩ rfl hl.1 (Nat.le_of_ble_eq_true rfl) d_A_append_S_21 ⟨(by first | exact Nat.le_of_ble_eq_true rfl | (dsimp only; omega) | omega), (by first | exact Nat.le_of_ble_eq_true rfl | (dsimp only; omega) | omega)⟩) hP hD hS hA [0, 1] [] rfl rfl rfl (by decide) (fun w1 H locs hp hP hD hS => ?_)
  obtain ⟨v_3, f_3, rfl, hfit2, hkeep2⟩ := hp
  have hP : va_P (gD g) classes [(b, .inr (3, [.ref v_3, .int 0, .int ml, .int (nI xs.length)])), (v_3, .inl (gB g, (sb_cap (xs.length + (li_x i).length) cp), .inl f_3))] H := hP
  have hD : va_D A [(b, .inr (3, [.ref v_3, .int 0, .int ml, .int (nI xs.length)])), (v_3, .inl (gB g, (sb_cap (xs.length + (li_x i).length) cp), .inl f_3))] := hD
  refine lv_aload_n hx hb d_A_append_S_24 rfl (lv_at hl 1 rfl) ?_
  refine lv_aload_n hx hb d_A_append_S_25 rfl (lv_at hl 1 rfl) ?_
  refine va_get (D := gD g) (ci := 3) (v := .int (nI xs.length)) (C := R_SB) (T := F_SB) (N := 4) hx hb hF.2.2.2.2 in_SB hF.2.2.2.1 hK hP 0 rfl rfl 3 (by decide) (hF.2.2.2.2 _ fl_A_79) (fun _ h9 => h9) rfl d_A_append_S_26 ?_
  refine lv_aload_n hx hb d_A_append_S_29 rfl (lv_at hl 2 rfl) ?_
  refine go_v (wr := []) (run_U (C := R_SB) hF (c_A_putStringAt g l _ b v_3 xs.length (sb_cap (xs.length + (li_x i).length) cp) ml f_3 i hi (by omega) (by omega)) k_A_putStringAt j_A_208 sm_A_putStringAt se_SB_A_putStringAt (va_recv hK hP (ci := 3) (q0 := 0) rfl rfl) (cw_down G hP hD hS hA [0, 1] rfl rfl) ⟨Nat.le_of_ble_eq_true rfl, Nat.le_of_ble_eq_true rfl⟩ rfl hl.1 (Nat.le_of_ble_eq_true rfl) d_A_append_S_30 ⟨(by first | exact Nat.le_of_ble_eq_true rfl | (dsimp only; omega) | omega), (by first | exact Nat.le_of_ble_eq_true rfl | (dsimp only; omega) | omega)⟩) hP hD hS hA [0, 1] [] rfl rfl rfl (by decide) (fun w1 H locs hp hP hD hS => ?_)
  obtain rfl := hp
  have hP : va_P (gD g) classes [(b, .inr (3, [.ref v_3, .int 0, .int ml, .int (nI xs.length)])), (v_3, .inl (gB g, (sb_cap (xs.length + (li_x i).length) cp), .inl (va_cpy (fun j => li_c i j) f_3 0 xs.length (li_x i).length)))] H := hP
  have hD : va_D A [(b, .inr (3, [.ref v_3, .int 0, .int ml, .int (nI xs.length)])), (v_3, .inl (gB g, (sb_cap (xs.length + (li_x i).length) cp), .inl (va_cpy (fun j => li_c i j) f_3 0 xs.length (li_x i).length)))] := hD
  refine lv_aload_n hx hb d_A_append_S_33 rfl (lv_at hl 1 rfl) ?_
  refine lv_dup hx hb d_A_append_S_34 rfl ?_
  refine va_get (D := gD g) (ci := 3) (v := .int (nI xs.length)) (C := R_SB) (T := F_SB) (N := 4) hx hb hF.2.2.2.2 in_SB hF.2.2.2.1 hK hP 0 rfl rfl 3 (by decide) (hF.2.2.2.2 _ fl_A_79) (fun _ h9 => h9) rfl d_A_append_S_35 ?_
  refine lv_iload_n hx hb d_A_append_S_38 rfl (lv_at hl 0 rfl) ?_
  refine lv_iadd hx hb d_A_append_S_39 ?_
  refine tp_i (show ((nI xs.length) + (nI (li_x i).length)) = (nI (xs ++ li_x i).length) from by rw [List.length_append]; exact nI_add _ _) ?_
  refine va_put (D := gD g) (ci := 3) (v := .int (nI (xs ++ li_x i).length)) (ty := .int) (C := R_SB) (T := F_SB) (N := 4) hx hb hF.2.2.2.2 in_SB t_SB t_SB_ok n_SB hF.2.2.2.1 hK hP hD hS 0 rfl rfl 3 (by decide) (hF.2.2.2.2 _ fl_A_79) (fun _ h9 => h9) rfl (by decide +kernel) rfl rfl (Nat.le_of_ble_eq_true rfl) d_A_append_S_40 (fun H locs hP hD hS => ?_)
  have hP : va_P (gD g) classes [(b, .inr (3, [.ref v_3, .int 0, .int ml, .int (nI (xs ++ li_x i).length)])), (v_3, .inl (gB g, (sb_cap (xs.length + (li_x i).length) cp), .inl (va_cpy (fun j => li_c i j) f_3 0 xs.length (li_x i).length)))] H := hP
  have hD : va_D A [(b, .inr (3, [.ref v_3, .int 0, .int ml, .int (nI (xs ++ li_x i).length)])), (v_3, .inl (gB g, (sb_cap (xs.length + (li_x i).length) cp), .inl (va_cpy (fun j => li_c i j) f_3 0 xs.length (li_x i).length)))] := hD
  refine lv_aload_n hx hb d_A_append_S_43 rfl (lv_at hl 1 rfl) ?_
  exact ret_r hx hb hr (Or.inl ⟨_, rfl⟩) hlk hP hD hS ⟨rfl, _, _, rfl, tx_app hi ht (by omega) (by omega) hcl hfit2 hkeep2⟩ (by first | exact Nat.le_of_ble_eq_true rfl | (dsimp only; omega) | omega) (by first | exact Nat.le_of_ble_eq_true rfl | (dsimp only; omega) | omega) d_A_append_S_44
set_option maxRecDepth 100000 in
theorem k_SB_append_S : ck y_SB_append_S b_SB_append_S 2 (some (.object "java/lang/StringBuilder")) 1 (.instanceMethod y_SB_append_S) := ⟨tk_of (List.mem_of_getElem? (i := 341) rfl) rfl, tk_of (List.mem_of_getElem? (i := 339) (by decide +kernel)) rfl, tk_of (List.mem_of_getElem? (i := 39) (by decide +kernel)) rfl, by decide +kernel⟩
theorem j_SB_29 : Cond.methodLink R_SB 29 y_A_append_S ∈ tk := tk_of (List.mem_of_getElem? (i := 342) (by decide +kernel)) rfl
theorem sm_A_append_S : Cond.sameMethod R_A R_A "append" "(Ljava/lang/String;)Ljava/lang/AbstractStringBuilder;" ∈ tk := tk_of (List.mem_of_getElem? (i := 911) (by decide +kernel)) rfl
set_option maxHeartbeats 4000000 in
set_option maxRecDepth 100000 in
theorem c_SB_append_S (g : gT) (l : Launch) (sz : Nat) (b v cp : Nat) (ml : Int32) (a : Nat → Int32) (xs : List Nat) (ht : tx xs cp a) (i : Nat) (hi : i < 41) (hl70 : xs.length + (li_x i).length ≤ 70) : Mg g l y_SB_append_S b_SB_append_S 2 (some (.object "java/lang/StringBuilder")) 5 127 (gc (xs.length + (li_x i).length) cp) (gs (xs.length + (li_x i).length) cp) [.ref b, .ref (gK g i)] [(b, .inr (3, [.ref v, .int 0, .int ml, .int (nI xs.length)])), (v, .inl (gB g, cp, .inl a))] sz (qR g (fun r w1 => r = b ∧ ∃ (v' : Nat) (f : Nat → Int32), w1 = [(b, .inr (3, [.ref v', .int 0, .int ml, .int (nI (xs ++ li_x i).length)])), (v', .inl (gB g, (sb_cap (xs.length + (li_x i).length) cp), .inl f))] ∧ tx (xs ++ li_x i) (sb_cap (xs.length + (li_x i).length) cp) f)) := by
  refine mg_of (by decide) (Nat.le_of_ble_eq_true rfl) ?_
  intro p e s m below meth c ls A hx hb hF hr hlk hnm hA G hP hD hS hl
  have hK := G.2.1
  have hN := G.1
  have hl : lv_has ls 2 [(0, .ref b), (1, .ref (gK g i))] := hl
  refine lv_aload_n hx hb d_SB_append_S_0 rfl (lv_at hl 0 rfl) ?_
  refine lv_aload_n hx hb d_SB_append_S_1 rfl (lv_at hl 1 rfl) ?_
  refine go_r (wr := []) (run_SU (C := R_SB) (hK.1 3 _ rfl).2 hF (c_A_append_S g l _ b v cp ml a xs ht i hi hl70) k_A_append_S j_SB_29 sm_A_append_S su_SB (by decide) (va_recv hK hP (ci := 3) (q0 := 0) rfl rfl) (cw_down G hP hD hS hA [0, 1] rfl rfl) ⟨Nat.le_of_ble_eq_true rfl, Nat.le_of_ble_eq_true rfl⟩ rfl hl.1 (Nat.le_of_ble_eq_true rfl) d_SB_append_S_2 ⟨(by first | exact Nat.le_of_ble_eq_true rfl | (dsimp only; omega) | omega), (by first | exact Nat.le_of_ble_eq_true rfl | (dsimp only; omega) | omega)⟩) hP hD hS hA [0, 1] [] rfl rfl rfl (by decide) (fun r_1 w1 H locs hp hP hD hS => ?_)
  obtain ⟨er, v_2, f_2, rfl, ht_2⟩ := hp
  rw [er]
  have hP : va_P (gD g) classes [(b, .inr (3, [.ref v_2, .int 0, .int ml, .int (nI (xs ++ li_x i).length)])), (v_2, .inl (gB g, (sb_cap (xs.length + (li_x i).length) cp), .inl f_2))] H := hP
  have hD : va_D A [(b, .inr (3, [.ref v_2, .int 0, .int ml, .int (nI (xs ++ li_x i).length)])), (v_2, .inl (gB g, (sb_cap (xs.length + (li_x i).length) cp), .inl f_2))] := hD
  refine lv_pop hx hb d_SB_append_S_5 rfl ?_
  refine lv_aload_n hx hb d_SB_append_S_6 rfl (lv_at hl 0 rfl) ?_
  exact ret_r hx hb hr (Or.inl ⟨_, rfl⟩) hlk hP hD hS ⟨rfl, _, _, rfl, ht_2⟩ (by first | exact Nat.le_of_ble_eq_true rfl | (dsimp only; omega) | omega) (by first | exact Nat.le_of_ble_eq_true rfl | (dsimp only; omega) | omega) d_SB_append_S_7
