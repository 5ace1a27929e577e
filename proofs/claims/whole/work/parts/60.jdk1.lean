def f_L1_canEncode_C (x : Int32) : Int32 := (if 255 < x then 0 else 1)
set_option maxRecDepth 100000 in
theorem z_L1_canEncode_C (x : Int32) : f_L1_canEncode_C x = 0 ∨ f_L1_canEncode_C x = 1 := by
  unfold f_L1_canEncode_C
  repeat' first | with_reducible refine z_ite ?_ ?_ | with_reducible exact Or.inl rfl | with_reducible exact Or.inr rfl
set_option maxRecDepth 100000 in
theorem k_L1_canEncode_C : ck y_L1_canEncode_C b_L1_canEncode_C 1 (some .boolean) 1 (.static y_L1_canEncode_C) := ⟨tk_of (List.mem_of_getElem? (i := 228) rfl) rfl, tk_of (List.mem_of_getElem? (i := 227) (by decide +kernel)) rfl, tk_of (List.mem_of_getElem? (i := 49) (by decide +kernel)) rfl, by decide +kernel⟩
set_option maxHeartbeats 4000000 in
set_option maxRecDepth 100000 in
theorem c_L1_canEncode_C (l : Launch) (x : Int32) : pmI l y_L1_canEncode_C b_L1_canEncode_C 1 .boolean 0 0 [.int x] (fun r => r = f_L1_canEncode_C x) := by
  refine pm_of (by decide) (Nat.le_of_ble_eq_true rfl) ?_
  intro p e s m below meth c ls hx hb hF hr hlk hN hl
  have hl : lv_has ls 1 [(0, .int x)] := hl
  refine lv_iload_n hx hb d_L1_canEncode_C_0 rfl (lv_at hl 0 rfl) ?_
  refine lv_sipush (v := 255) hx hb d_L1_canEncode_C_1 (by decide) ?_
  refine lv_icmp_gt (tgt := 11) hx hb d_L1_canEncode_C_4 (by decide) (fun c_1 => ?_) (fun c_1 => ?_)
  · skip
    refine lv_iconst (v := 0) hx hb d_L1_canEncode_C_11 (by decide) ?_
    exact pm_ret hx hb hr hlk (by decide) (by rw [f_L1_canEncode_C, if_pos c_1]) d_L1_canEncode_C_12
  · skip
    refine lv_iconst (v := 1) hx hb d_L1_canEncode_C_7 (by decide) ?_
    refine lv_goto (tgt := 12) hx hb d_L1_canEncode_C_8 (by decide) ?_
    exact pm_ret hx hb hr hlk (by decide) (by rw [f_L1_canEncode_C, if_neg c_1]) d_L1_canEncode_C_12
def f_L1_canEncode_I (x : Int32) : Int32 := (if x < 0 then 0 else (if 255 < x then 0 else 1))
set_option maxRecDepth 100000 in
theorem z_L1_canEncode_I (x : Int32) : f_L1_canEncode_I x = 0 ∨ f_L1_canEncode_I x = 1 := by
  unfold f_L1_canEncode_I
  repeat' first | with_reducible refine z_ite ?_ ?_ | with_reducible exact Or.inl rfl | with_reducible exact Or.inr rfl
set_option maxRecDepth 100000 in
theorem k_L1_canEncode_I : ck y_L1_canEncode_I b_L1_canEncode_I 1 (some .boolean) 1 (.static y_L1_canEncode_I) := ⟨tk_of (List.mem_of_getElem? (i := 594) rfl) rfl, tk_of (List.mem_of_getElem? (i := 593) (by decide +kernel)) rfl, tk_of (List.mem_of_getElem? (i := 49) (by decide +kernel)) rfl, by decide +kernel⟩
set_option maxHeartbeats 4000000 in
set_option maxRecDepth 100000 in
theorem c_L1_canEncode_I (l : Launch) (x : Int32) : pmI l y_L1_canEncode_I b_L1_canEncode_I 1 .boolean 0 0 [.int x] (fun r => r = f_L1_canEncode_I x) := by
  refine pm_of (by decide) (Nat.le_of_ble_eq_true rfl) ?_
  intro p e s m below meth c ls hx hb hF hr hlk hN hl
  have hl : lv_has ls 1 [(0, .int x)] := hl
  refine lv_iload_n hx hb d_L1_canEncode_I_0 rfl (lv_at hl 0 rfl) ?_
  refine lv_if_lt (tgt := 15) hx hb d_L1_canEncode_I_1 (by decide) (fun c_1 => ?_) (fun c_1 => ?_)
  · skip
    refine lv_iconst (v := 0) hx hb d_L1_canEncode_I_15 (by decide) ?_
    exact pm_ret hx hb hr hlk (by decide) (by rw [f_L1_canEncode_I, if_pos c_1]) d_L1_canEncode_I_16
  · skip
    refine lv_iload_n hx hb d_L1_canEncode_I_4 rfl (lv_at hl 0 rfl) ?_
    refine lv_sipush (v := 255) hx hb d_L1_canEncode_I_5 (by decide) ?_
    refine lv_icmp_gt (tgt := 15) hx hb d_L1_canEncode_I_8 (by decide) (fun c_2 => ?_) (fun c_2 => ?_)
    · skip
      refine lv_iconst (v := 0) hx hb d_L1_canEncode_I_15 (by decide) ?_
      exact pm_ret hx hb hr hlk (by decide) (by rw [f_L1_canEncode_I, if_neg c_1, if_pos c_2]) d_L1_canEncode_I_16
    · skip
      refine lv_iconst (v := 1) hx hb d_L1_canEncode_I_11 (by decide) ?_
      refine lv_goto (tgt := 16) hx hb d_L1_canEncode_I_12 (by decide) ?_
      exact pm_ret hx hb hr hlk (by decide) (by rw [f_L1_canEncode_I, if_neg c_1, if_neg c_2]) d_L1_canEncode_I_16
set_option maxRecDepth 100000 in
theorem k_Pr_checkIndex : ck y_Pr_checkIndex b_Pr_checkIndex 3 (some .int) 3 (.static y_Pr_checkIndex) := ⟨tk_of (List.mem_of_getElem? (i := 273) rfl) rfl, tk_of (List.mem_of_getElem? (i := 272) (by decide +kernel)) rfl, tk_of (List.mem_of_getElem? (i := 50) (by decide +kernel)) rfl, by decide +kernel⟩
set_option maxHeartbeats 4000000 in
set_option maxRecDepth 100000 in
theorem c_Pr_checkIndexN (l : Launch) (i n : Int32) (h0 : ¬ i < 0) (h1 : i < n) : pmI l y_Pr_checkIndex b_Pr_checkIndex 3 .int 0 0 [.int i, .int n, .null] (fun r => r = i) := by
  refine pm_of (by decide) (Nat.le_of_ble_eq_true rfl) ?_
  intro p e s m below meth c ls hx hb hF hr hlk hN hl
  have hl : lv_has ls 3 [(0, .int i), (1, .int n), (2, .null)] := hl
  refine lv_iload_n hx hb d_Pr_checkIndex_0 rfl (lv_at hl 0 rfl) ?_
  refine lv_if_lt (tgt := 9) hx hb d_Pr_checkIndex_1 (by decide) (fun c => absurd c h0) (fun _ => ?_)
  refine lv_iload_n hx hb d_Pr_checkIndex_4 rfl (lv_at hl 0 rfl) ?_
  refine lv_iload_n hx hb d_Pr_checkIndex_5 rfl (lv_at hl 1 rfl) ?_
  refine lv_icmp_lt (tgt := 16) hx hb d_Pr_checkIndex_6 (by decide) (fun _ => ?_) (fun c => absurd h1 c)
  refine lv_iload_n hx hb d_Pr_checkIndex_16 rfl (lv_at hl 0 rfl) ?_
  exact pm_ret hx hb hr hlk (nar_i _) rfl d_Pr_checkIndex_17
set_option maxHeartbeats 4000000 in
set_option maxRecDepth 100000 in
theorem c_Pr_checkIndexR (l : Launch) (q : Nat) (i n : Int32) (h0 : ¬ i < 0) (h1 : i < n) : pmI l y_Pr_checkIndex b_Pr_checkIndex 3 .int 0 0 [.int i, .int n, .ref q] (fun r => r = i) := by
  refine pm_of (by decide) (Nat.le_of_ble_eq_true rfl) ?_
  intro p e s m below meth c ls hx hb hF hr hlk hN hl
  have hl : lv_has ls 3 [(0, .int i), (1, .int n), (2, .ref q)] := hl
  refine lv_iload_n hx hb d_Pr_checkIndex_0 rfl (lv_at hl 0 rfl) ?_
  refine lv_if_lt (tgt := 9) hx hb d_Pr_checkIndex_1 (by decide) (fun c => absurd c h0) (fun _ => ?_)
  refine lv_iload_n hx hb d_Pr_checkIndex_4 rfl (lv_at hl 0 rfl) ?_
  refine lv_iload_n hx hb d_Pr_checkIndex_5 rfl (lv_at hl 1 rfl) ?_
  refine lv_icmp_lt (tgt := 16) hx hb d_Pr_checkIndex_6 (by decide) (fun _ => ?_) (fun c => absurd h1 c)
  refine lv_iload_n hx hb d_Pr_checkIndex_16 rfl (lv_at hl 0 rfl) ?_
  exact pm_ret hx hb hr hlk (nar_i _) rfl d_Pr_checkIndex_17
set_option maxRecDepth 100000 in
theorem k_St_checkIndex : ck y_St_checkIndex b_St_checkIndex 2 (none) 2 (.static y_St_checkIndex) := ⟨tk_of (List.mem_of_getElem? (i := 270) rfl) rfl, tk_of (List.mem_of_getElem? (i := 269) (by decide +kernel)) rfl, tk_of (List.mem_of_getElem? (i := 40) (by decide +kernel)) rfl, by decide +kernel⟩
theorem j_St_1059 : Cond.methodLink R_St 1059 y_Pr_checkIndex ∈ tk := tk_of (List.mem_of_getElem? (i := 271) (by decide +kernel)) rfl
theorem fl_St_1053 : Cond.fieldLink R_St 1053 R_Pr "SIOOBE_FORMATTER" "Ljava/util/function/BiFunction;" ∈ tk := tk_of (List.mem_of_getElem? (i := 248) (by decide +kernel)) rfl
set_option maxHeartbeats 4000000 in
set_option maxRecDepth 100000 in
theorem c_St_checkIndex (g : gT) (l : Launch) (sz : Nat) (i n : Int32) (h0 : ¬ i < 0) (h1 : i < n) : Mg g l y_St_checkIndex b_St_checkIndex 2 (none) 1 22 0 0 [.int i, .int n] [] sz (qV g (fun w1 => w1 = [])) := by
  refine mg_of (by decide) (Nat.le_of_ble_eq_true rfl) ?_
  intro p e s m below meth c ls A hx hb hF hr hlk hnm hA G hP hD hS hl
  have hN := G.1
  have hl : lv_has ls 2 [(0, .int i), (1, .int n)] := hl
  refine lv_iload_n hx hb d_St_checkIndex_0 rfl (lv_at hl 0 rfl) ?_
  refine lv_iload_n hx hb d_St_checkIndex_1 rfl (lv_at hl 1 rfl) ?_
  rcases G.2.2.2.2.2 with hZ | ⟨q, hZ⟩
  · skip
    refine va_gets hx hb hZ hS hF.2.2.2.1 (hF.2.2.2.2 _ fl_St_1053) (fun _ h9 => h9) d_St_checkIndex_2 ?_
    refine pm_callE hF hN (c_Pr_checkIndexN l i n h0 h1) k_Pr_checkIndex j_St_1059 ⟨Nat.le_of_ble_eq_true rfl, Nat.le_of_ble_eq_true rfl⟩ rfl hl.1 (Nat.le_of_ble_eq_true rfl) d_St_checkIndex_5 ⟨Nat.le_refl _, Nat.le_refl _⟩ ?_
    refine lv_pop hx hb d_St_checkIndex_8 rfl ?_
    exact ret_v hx hb hr hlk hP hD hS rfl (Nat.le_refl _) (Nat.le_refl _) d_St_checkIndex_9
  · skip
    refine va_gets hx hb hZ hS hF.2.2.2.1 (hF.2.2.2.2 _ fl_St_1053) (fun _ h9 => h9) d_St_checkIndex_2 ?_
    refine pm_callE hF hN (c_Pr_checkIndexR l q i n h0 h1) k_Pr_checkIndex j_St_1059 ⟨Nat.le_of_ble_eq_true rfl, Nat.le_of_ble_eq_true rfl⟩ rfl hl.1 (Nat.le_of_ble_eq_true rfl) d_St_checkIndex_5 ⟨Nat.le_refl _, Nat.le_refl _⟩ ?_
    refine lv_pop hx hb d_St_checkIndex_8 rfl ?_
    exact ret_v hx hb hr hlk hP hD hS rfl (Nat.le_refl _) (Nat.le_refl _) d_St_checkIndex_9
set_option maxRecDepth 100000 in
theorem k_A_length : ck y_A_length b_A_length 1 (some .int) 0 (.instanceMethod y_A_length) := ⟨tk_of (List.mem_of_getElem? (i := 425) rfl) rfl, tk_of (List.mem_of_getElem? (i := 424) (by decide +kernel)) rfl, tk_of (List.mem_of_getElem? (i := 38) (by decide +kernel)) rfl, by decide +kernel⟩
theorem fl_A_79 : Cond.fieldLink R_A 79 R_A "count" "I" ∈ tk := tk_of (List.mem_of_getElem? (i := 87) (by decide +kernel)) rfl
set_option maxHeartbeats 4000000 in
set_option maxRecDepth 100000 in
theorem c_A_length (g : gT) (l : Launch) (sz : Nat) (b v n cp : Nat) (ml : Int32) (a : Nat → Int32) : Mg g l y_A_length b_A_length 1 (some .int) 0 0 0 0 [.ref b] [(b, .inr (3, [.ref v, .int 0, .int ml, .int (nI n)])), (v, .inl (gB g, cp, .inl a))] sz (qI g (fun r w1 => r = nI n ∧ w1 = [(b, .inr (3, [.ref v, .int 0, .int ml, .int (nI n)])), (v, .inl (gB g, cp, .inl a))])) := by
  refine mg_of (by decide) (Nat.le_of_ble_eq_true rfl) ?_
  intro p e s m below meth c ls A hx hb hF hr hlk hnm hA G hP hD hS hl
  have hK := G.2.1
  have hN := G.1
  have hl : lv_has ls 1 [(0, .ref b)] := hl
  refine lv_aload_n hx hb d_A_length_0 rfl (lv_at hl 0 rfl) ?_
  refine va_get (D := gD g) (ci := 3) (v := .int (nI n)) (C := R_SB) (T := F_SB) (N := 4) hx hb hF.2.2.2.2 in_SB hF.2.2.2.1 hK hP 0 rfl rfl 3 (by decide) (hF.2.2.2.2 _ fl_A_79) (fun _ h9 => h9) rfl d_A_length_1 ?_
  exact ret_i hx hb hr hlk (hP.sub (ws' := [(b, .inr (3, [.ref v, .int 0, .int ml, .int (nI n)])), (v, .inl (gB g, cp, .inl a))]) [0, 1] rfl) (hD.sub (ws' := [(b, .inr (3, [.ref v, .int 0, .int ml, .int (nI n)])), (v, .inl (gB g, cp, .inl a))]) [0, 1] rfl rfl) hS (nar_i _) ⟨rfl, rfl⟩ (by first | exact Nat.le_of_ble_eq_true rfl | (dsimp only; omega) | omega) (by first | exact Nat.le_of_ble_eq_true rfl | (dsimp only; omega) | omega) d_A_length_4
set_option maxRecDepth 100000 in
theorem k_SB_length : ck y_SB_length b_SB_length 1 (some .int) 0 (.instanceMethod y_SB_length) := ⟨tk_of (List.mem_of_getElem? (i := 422) rfl) rfl, tk_of (List.mem_of_getElem? (i := 420) (by decide +kernel)) rfl, tk_of (List.mem_of_getElem? (i := 39) (by decide +kernel)) rfl, by decide +kernel⟩
theorem j_SB_343 : Cond.methodLink R_SB 343 y_A_length ∈ tk := tk_of (List.mem_of_getElem? (i := 423) (by decide +kernel)) rfl
theorem sm_A_length : Cond.sameMethod R_A R_A "length" "()I" ∈ tk := tk_of (List.mem_of_getElem? (i := 915) (by decide +kernel)) rfl
theorem su_SB : Cond.superclass R_SB R_A ∈ tk := tk_of (List.mem_of_getElem? (i := 96) (by decide +kernel)) rfl
set_option maxHeartbeats 4000000 in
set_option maxRecDepth 100000 in
theorem c_SB_length (g : gT) (l : Launch) (sz : Nat) (b v n cp : Nat) (ml : Int32) (a : Nat → Int32) : Mg g l y_SB_length b_SB_length 1 (some .int) 1 20 0 0 [.ref b] [(b, .inr (3, [.ref v, .int 0, .int ml, .int (nI n)])), (v, .inl (gB g, cp, .inl a))] sz (qI g (fun r w1 => r = nI n ∧ w1 = [(b, .inr (3, [.ref v, .int 0, .int ml, .int (nI n)])), (v, .inl (gB g, cp, .inl a))])) := by
  refine mg_of (by decide) (Nat.le_of_ble_eq_true rfl) ?_
  intro p e s m below meth c ls A hx hb hF hr hlk hnm hA G hP hD hS hl
  have hK := G.2.1
  have hN := G.1
  have hl : lv_has ls 1 [(0, .ref b)] := hl
  refine lv_aload_n hx hb d_SB_length_0 rfl (lv_at hl 0 rfl) ?_
  refine go_i (wr := []) (run_SU (C := R_SB) (hK.1 3 _ rfl).2 hF (c_A_length g l _ b v n cp ml a) k_A_length j_SB_343 sm_A_length su_SB (by decide) (va_recv hK hP (ci := 3) (q0 := 0) rfl rfl) (cw_down G hP hD hS hA [0, 1] rfl rfl) ⟨Nat.le_of_ble_eq_true rfl, Nat.le_of_ble_eq_true rfl⟩ rfl hl.1 (Nat.le_of_ble_eq_true rfl) d_SB_length_1 ⟨(by first | exact Nat.le_of_ble_eq_true rfl | (dsimp only; omega) | omega), (by first | exact Nat.le_of_ble_eq_true rfl | (dsimp only; omega) | omega)⟩) hP hD hS hA [0, 1] [] rfl rfl rfl (by decide) (fun r_1 w1 H locs hp hP hD hS => ?_)
  obtain ⟨rfl, rfl⟩ := hp
  have hP : va_P (gD g) classes [(b, .inr (3, [.ref v, .int 0, .int ml, .int (nI n)])), (v, .inl (gB g, cp, .inl a))] H := hP
  have hD : va_D A [(b, .inr (3, [.ref v, .int 0, .int ml, .int (nI n)])), (v, .inl (gB g, cp, .inl a))] := hD
  exact ret_i hx hb hr hlk (hP.sub (ws' := [(b, .inr (3, [.ref v, .int 0, .int ml, .int (nI n)])), (v, .inl (gB g, cp, .inl a))]) [0, 1] rfl) (hD.sub (ws' := [(b, .inr (3, [.ref v, .int 0, .int ml, .int (nI n)])), (v, .inl (gB g, cp, .inl a))]) [0, 1] rfl rfl) hS (nar_i _) ⟨rfl, rfl⟩ (by first | exact Nat.le_of_ble_eq_true rfl | (dsimp only; omega) | omega) (by first | exact Nat.le_of_ble_eq_true rfl | (dsimp only; omega) | omega) d_SB_length_4
set_option maxRecDepth 100000 in
theorem k_A_isLatin1 : ck y_A_isLatin1 b_A_isLatin1 1 (some .boolean) 0 (.instanceMethod y_A_isLatin1) := ⟨tk_of (List.mem_of_getElem? (i := 192) rfl) rfl, tk_of (List.mem_of_getElem? (i := 189) (by decide +kernel)) rfl, tk_of (List.mem_of_getElem? (i := 38) (by decide +kernel)) rfl, by decide +kernel⟩
theorem fl_A_18 : Cond.fieldLink R_A 18 R_St "COMPACT_STRINGS" "Z" ∈ tk := tk_of (List.mem_of_getElem? (i := 75) (by decide +kernel)) rfl
theorem fl_A_22 : Cond.fieldLink R_A 22 R_A "coder" "B" ∈ tk := tk_of (List.mem_of_getElem? (i := 85) (by decide +kernel)) rfl
set_option maxHeartbeats 4000000 in
set_option maxRecDepth 100000 in
theorem c_A_isLatin1 (g : gT) (l : Launch) (sz : Nat) (b v n cp : Nat) (ml : Int32) (a : Nat → Int32) : Mg g l y_A_isLatin1 b_A_isLatin1 1 (some .boolean) 0 0 0 0 [.ref b] [(b, .inr (3, [.ref v, .int 0, .int ml, .int (nI n)])), (v, .inl (gB g, cp, .inl a))] sz (qI g (fun r w1 => r = 1 ∧ w1 = [(b, .inr (3, [.ref v, .int 0, .int ml, .int (nI n)])), (v, .inl (gB g, cp, .inl a))])) := by
  refine mg_of (by decide) (Nat.le_of_ble_eq_true rfl) ?_
  intro p e s m below meth c ls A hx hb hF hr hlk hnm hA G hP hD hS hl
  have hK := G.2.1
  have hN := G.1
  have hl : lv_has ls 1 [(0, .ref b)] := hl
  refine va_gets hx hb G.2.2.2.2.1 hS hF.2.2.2.1 (hF.2.2.2.2 _ fl_A_18) (fun _ h9 => h9) d_A_isLatin1_0 ?_
  refine lv_if_eq (tgt := 17) hx hb d_A_isLatin1_3 (by decide) (fun c_1 => ?_) (fun c_1 => ?_)
  · exact absurd c_1 (by decide)
  · skip
    refine lv_aload_n hx hb d_A_isLatin1_6 rfl (lv_at hl 0 rfl) ?_
    refine va_get (D := gD g) (ci := 3) (v := .int 0) (C := R_SB) (T := F_SB) (N := 4) hx hb hF.2.2.2.2 in_SB hF.2.2.2.1 hK hP 0 rfl rfl 1 (by decide) (hF.2.2.2.2 _ fl_A_22) (fun _ h9 => h9) rfl d_A_isLatin1_7 ?_
    refine lv_if_ne (tgt := 17) hx hb d_A_isLatin1_10 (by decide) (fun c_2 => ?_) (fun c_2 => ?_)
    · exact absurd c_2 (by decide)
    · skip
      refine lv_iconst (v := 1) hx hb d_A_isLatin1_13 (by decide) ?_
      refine lv_goto (tgt := 18) hx hb d_A_isLatin1_14 (by decide) ?_
      exact ret_i hx hb hr hlk (hP.sub (ws' := [(b, .inr (3, [.ref v, .int 0, .int ml, .int (nI n)])), (v, .inl (gB g, cp, .inl a))]) [0, 1] rfl) (hD.sub (ws' := [(b, .inr (3, [.ref v, .int 0, .int ml, .int (nI n)])), (v, .inl (gB g, cp, .inl a))]) [0, 1] rfl rfl) hS (by decide) ⟨rfl, rfl⟩ (by first | exact Nat.le_of_ble_eq_true rfl | (dsimp only; omega) | omega) (by first | exact Nat.le_of_ble_eq_true rfl | (dsimp only; omega) | omega) d_A_isLatin1_18
