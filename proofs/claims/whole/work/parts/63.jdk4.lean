set_option maxRecDepth 100000 in
theorem k_A_append_C : ck y_A_append_C b_A_append_C 2 (some (.object "java/lang/AbstractStringBuilder")) 1 (.instanceMethod y_A_append_C) := ⟨tk_of (List.mem_of_getElem? (i := 225) rfl) rfl, tk_of (List.mem_of_getElem? (i := 224) (by decide +kernel)) rfl, tk_of (List.mem_of_getElem? (i := 38) (by decide +kernel)) rfl, by decide +kernel⟩
theorem j_A_100 : Cond.methodLink R_A 100 y_A_ensureCapacityInternal ∈ tk := tk_of (List.mem_of_getElem? (i := 153) (by decide +kernel)) rfl
theorem sm_A_ensureCapacityInternal : Cond.sameMethod R_A R_A "ensureCapacityInternal" "(I)V" ∈ tk := tk_of (List.mem_of_getElem? (i := 907) (by decide +kernel)) rfl
theorem se_SB_A_ensureCapacityInternal : Cond.selects R_SB y_A_ensureCapacityInternal y_A_ensureCapacityInternal ∈ tk := tk_x (List.mem_of_getElem? (i := 0) rfl) rfl
theorem j_A_83 : Cond.methodLink R_A 83 y_A_isLatin1 ∈ tk := tk_of (List.mem_of_getElem? (i := 188) (by decide +kernel)) rfl
theorem sm_A_isLatin1 : Cond.sameMethod R_A R_A "isLatin1" "()Z" ∈ tk := tk_of (List.mem_of_getElem? (i := 190) (by decide +kernel)) rfl
theorem se_SB_A_isLatin1 : Cond.selects R_SB y_A_isLatin1 y_A_isLatin1 ∈ tk := tk_of (List.mem_of_getElem? (i := 191) (by decide +kernel)) rfl
theorem j_A_191 : Cond.methodLink R_A 191 y_L1_canEncode_C ∈ tk := tk_of (List.mem_of_getElem? (i := 226) (by decide +kernel)) rfl
set_option maxHeartbeats 4000000 in
set_option maxRecDepth 100000 in
theorem c_A_append_C (g : gT) (l : Launch) (sz : Nat) (b v cp : Nat) (ml : Int32) (a : Nat → Int32) (xs : List Nat) (ht : tx xs cp a) (ch : Nat) (hc : ch < 128) (hl70 : xs.length + 1 ≤ 70) : Mg g l y_A_append_C b_A_append_C 2 (some (.object "java/lang/AbstractStringBuilder")) 4 104 (gc (xs.length + 1) cp) (gs (xs.length + 1) cp) [.ref b, .int (nI ch)] [(b, .inr (3, [.ref v, .int 0, .int ml, .int (nI xs.length)])), (v, .inl (gB g, cp, .inl a))] sz (qR g (fun r w1 => r = b ∧ ∃ (v' : Nat) (f : Nat → Int32), w1 = [(b, .inr (3, [.ref v', .int 0, .int ml, .int (nI (xs ++ [ch]).length)])), (v', .inl (gB g, (sb_cap (xs.length + 1) cp), .inl f))] ∧ tx (xs ++ [ch]) (sb_cap (xs.length + 1) cp) f)) := by
  refine mg_of (by decide) (Nat.le_of_ble_eq_true rfl) ?_
  intro p e s m below meth c ls A hx hb hF hr hlk hnm hA G hP hD hS hl
  have hK := G.2.1
  have hN := G.1
  have hl : lv_has ls 2 [(0, .ref b), (1, .int (nI ch))] := hl
  have ht1 := ht.1
  have ht2 := ht.2.1
  have ht3 := ht.2.2.1
  have hcg := sb_cap_ge (xs.length + 1) cp
  have hcm := sb_cap_gem (xs.length + 1) cp
  have hcl := cap_le _ _ hl70 ht3
  refine lv_aload_n hx hb d_A_append_C_0 rfl (lv_at hl 0 rfl) ?_
  refine lv_aload_n hx hb d_A_append_C_1 rfl (lv_at hl 0 rfl) ?_
  refine va_get (D := gD g) (ci := 3) (v := .int (nI xs.length)) (C := R_SB) (T := F_SB) (N := 4) hx hb hF.2.2.2.2 in_SB hF.2.2.2.1 hK hP 0 rfl rfl 3 (by decide) (hF.2.2.2.2 _ fl_A_79) (fun _ h9 => h9) rfl d_A_append_C_2 ?_
  refine lv_iconst (v := 1) hx hb d_A_append_C_5 (by decide) ?_
  refine lv_iadd hx hb d_A_append_C_6 ?_
  refine tp_i (show ((nI xs.length) + 1) = (nI (xs.length + 1)) from nI_1 _) ?_
  refine go_v (wr := []) (run_U (C := R_SB) hF (c_A_ensureCapacityInternal g l _ b v xs.length cp ml a (xs.length + 1) (by omega) (by omega) ht.2.2.2.1) k_A_ensureCapacityInternal j_A_100 sm_A_ensureCapacityInternal se_SB_A_ensureCapacityInternal (va_recv hK hP (ci := 3) (q0 := 0) rfl rfl) (cw_down G hP hD hS hA [0, 1] rfl rfl) ⟨Nat.le_of_ble_eq_true rfl, Nat.le_of_ble_eq_true rfl⟩ rfl hl.1 (Nat.le_of_ble_eq_true rfl) d_A_append_C_7 ⟨(by first | exact Nat.le_of_ble_eq_true rfl | (dsimp only; omega) | omega), (by first | exact Nat.le_of_ble_eq_true rfl | (dsimp only; omega) | omega)⟩) hP hD hS hA [0, 1] [] rfl rfl rfl (by decide) (fun w1 H locs hp hP hD hS => ?_)
  obtain ⟨v_2, f_2, rfl, hfit2, hkeep2⟩ := hp
  have hP : va_P (gD g) classes [(b, .inr (3, [.ref v_2, .int 0, .int ml, .int (nI xs.length)])), (v_2, .inl (gB g, (sb_cap (xs.length + 1) cp), .inl f_2))] H := hP
  have hD : va_D A [(b, .inr (3, [.ref v_2, .int 0, .int ml, .int (nI xs.length)])), (v_2, .inl (gB g, (sb_cap (xs.length + 1) cp), .inl f_2))] := hD
  refine lv_aload_n hx hb d_A_append_C_10 rfl (lv_at hl 0 rfl) ?_
  refine go_i (wr := []) (run_U (C := R_SB) hF (c_A_isLatin1 g l _ b v_2 xs.length (sb_cap (xs.length + 1) cp) ml f_2) k_A_isLatin1 j_A_83 sm_A_isLatin1 se_SB_A_isLatin1 (va_recv hK hP (ci := 3) (q0 := 0) rfl rfl) (cw_down G hP hD hS hA [0, 1] rfl rfl) ⟨Nat.le_of_ble_eq_true rfl, Nat.le_of_ble_eq_true rfl⟩ rfl hl.1 (Nat.le_of_ble_eq_true rfl) d_A_append_C_11 ⟨(by first | exact Nat.le_of_ble_eq_true rfl | (dsimp only; omega) | omega), (by first | exact Nat.le_of_ble_eq_true rfl | (dsimp only; omega) | omega)⟩) hP hD hS hA [0, 1] [] rfl rfl rfl (by decide) (fun r_3 w1 H locs hp hP hD hS => ?_)
  obtain ⟨rfl, rfl⟩ := hp
  have hP : va_P (gD g) classes [(b, .inr (3, [.ref v_2, .int 0, .int ml, .int (nI xs.length)])), (v_2, .inl (gB g, (sb_cap (xs.length + 1) cp), .inl f_2))] H := hP
  have hD : va_D A [(b, .inr (3, [.ref v_2, .int 0, .int ml, .int (nI xs.length)])), (v_2, .inl (gB g, (sb_cap (xs.length + 1) cp), .inl f_2))] := hD
  refine lv_if_eq (tgt := 45) hx hb d_A_append_C_14 (by decide) (fun c_4 => ?_) (fun c_4 => ?_)
  · exact absurd c_4 (by decide)
  · skip
    refine lv_iload_n hx hb d_A_append_C_17 rfl (lv_at hl 1 rfl) ?_
    refine pm_callE hF hN (c_L1_canEncode_C l (nI ch)) k_L1_canEncode_C j_A_191 ⟨Nat.le_of_ble_eq_true rfl, Nat.le_of_ble_eq_true rfl⟩ rfl hl.1 (Nat.le_of_ble_eq_true rfl) d_A_append_C_18 ⟨by first | exact Nat.le_of_ble_eq_true rfl | (dsimp only; omega) | omega | exact Nat.zero_le _, by first | exact Nat.le_of_ble_eq_true rfl | (dsimp only; omega) | omega | exact Nat.zero_le _⟩ ?_
    refine lv_if_eq (tgt := 45) hx hb d_A_append_C_21 (by decide) (fun c_6 => absurd c_6 (j_b7 ch hc).2.2.2.1) (fun c_6 => ?_)
    refine lv_aload_n hx hb d_A_append_C_24 rfl (lv_at hl 0 rfl) ?_
    refine va_get (D := gD g) (ci := 3) (v := .ref v_2) (C := R_SB) (T := F_SB) (N := 4) hx hb hF.2.2.2.2 in_SB hF.2.2.2.1 hK hP 0 rfl rfl 0 (by decide) (hF.2.2.2.2 _ fl_A_15) (fun _ h9 => h9) rfl d_A_append_C_25 ?_
    refine lv_aload_n hx hb d_A_append_C_28 rfl (lv_at hl 0 rfl) ?_
    refine lv_dup hx hb d_A_append_C_29 rfl ?_
    refine va_get (D := gD g) (ci := 3) (v := .int (nI xs.length)) (C := R_SB) (T := F_SB) (N := 4) hx hb hF.2.2.2.2 in_SB hF.2.2.2.1 hK hP 0 rfl rfl 3 (by decide) (hF.2.2.2.2 _ fl_A_79) (fun _ h9 => h9) rfl d_A_append_C_30 ?_
    refine lv_dup_x1 hx hb d_A_append_C_33 rfl rfl ?_
    refine lv_iconst (v := 1) hx hb d_A_append_C_34 (by decide) ?_
    refine lv_iadd hx hb d_A_append_C_35 ?_
    refine tp_i (show ((nI xs.length) + 1) = (nI (xs ++ [ch]).length) from by rw [List.length_append]; exact nI_1 _) ?_
    refine va_put (D := gD g) (ci := 3) (v := .int (nI (xs ++ [ch]).length)) (ty := .int) (C := R_SB) (T := F_SB) (N := 4) hx hb hF.2.2.2.2 in_SB t_SB t_SB_ok n_SB hF.2.2.2.1 hK hP hD hS 0 rfl rfl 3 (by decide) (hF.2.2.2.2 _ fl_A_79) (fun _ h9 => h9) rfl (by decide +kernel) rfl rfl (Nat.le_of_ble_eq_true rfl) d_A_append_C_36 (fun H locs hP hD hS => ?_)
    have hP : va_P (gD g) classes [(b, .inr (3, [.ref v_2, .int 0, .int ml, .int (nI (xs ++ [ch]).length)])), (v_2, .inl (gB g, (sb_cap (xs.length + 1) cp), .inl f_2))] H := hP
    have hD : va_D A [(b, .inr (3, [.ref v_2, .int 0, .int ml, .int (nI (xs ++ [ch]).length)])), (v_2, .inl (gB g, (sb_cap (xs.length + 1) cp), .inl f_2))] := hD
    refine lv_iload_n hx hb d_A_append_C_39 rfl (lv_at hl 1 rfl) ?_
    refine lv_i2b hx hb d_A_append_C_40 rfl ?_
    refine tp_i (j_b7 ch hc).1 ?_
    refine va_bast hx hb hK hP hD hS 1 1 rfl rfl (vp_in_nI (n := xs.length) (by omega) (by omega)) d_A_append_C_41 (fun H locs hP hD hS => ?_)
    have hP : va_P (gD g) classes [(b, .inr (3, [.ref v_2, .int 0, .int ml, .int (nI (xs ++ [ch]).length)])), (v_2, .inl (gB g, (sb_cap (xs.length + 1) cp), .inl (upd f_2 (nI xs.length).toNatClampNeg (vp_nar .byte (nI ch)))))] H := hP
    have hD : va_D A [(b, .inr (3, [.ref v_2, .int 0, .int ml, .int (nI (xs ++ [ch]).length)])), (v_2, .inl (gB g, (sb_cap (xs.length + 1) cp), .inl (upd f_2 (nI xs.length).toNatClampNeg (vp_nar .byte (nI ch)))))] := hD
    refine lv_goto (tgt := 75) hx hb d_A_append_C_42 (by decide) ?_
    refine lv_aload_n hx hb d_A_append_C_75 rfl (lv_at hl 0 rfl) ?_
    exact ret_r hx hb hr (Or.inl ⟨_, rfl⟩) hlk (hP.sub (ws' := [(b, .inr (3, [.ref v_2, .int 0, .int ml, .int (nI (xs ++ [ch]).length)])), (v_2, .inl (gB g, (sb_cap (xs.length + 1) cp), .inl (upd f_2 (nI xs.length).toNatClampNeg (vp_nar .byte (nI ch)))))]) [0, 1] rfl) (hD.sub (ws' := [(b, .inr (3, [.ref v_2, .int 0, .int ml, .int (nI (xs ++ [ch]).length)])), (v_2, .inl (gB g, (sb_cap (xs.length + 1) cp), .inl (upd f_2 (nI xs.length).toNatClampNeg (vp_nar .byte (nI ch)))))]) [0, 1] rfl rfl) hS ⟨rfl, _, _, rfl, tx_one ht hc (by omega) (by omega) (cap_le _ _ hl70 ht3) hfit2 hkeep2⟩ (by first | exact Nat.le_of_ble_eq_true rfl | (dsimp only; omega) | omega) (by first | exact Nat.le_of_ble_eq_true rfl | (dsimp only; omega) | omega) d_A_append_C_76
set_option maxRecDepth 100000 in
theorem k_SB_append_C : ck y_SB_append_C b_SB_append_C 2 (some (.object "java/lang/StringBuilder")) 1 (.instanceMethod y_SB_append_C) := ⟨tk_of (List.mem_of_getElem? (i := 222) rfl) rfl, tk_of (List.mem_of_getElem? (i := 220) (by decide +kernel)) rfl, tk_of (List.mem_of_getElem? (i := 39) (by decide +kernel)) rfl, by decide +kernel⟩
theorem j_SB_50 : Cond.methodLink R_SB 50 y_A_append_C ∈ tk := tk_of (List.mem_of_getElem? (i := 223) (by decide +kernel)) rfl
theorem sm_A_append_C : Cond.sameMethod R_A R_A "append" "(C)Ljava/lang/AbstractStringBuilder;" ∈ tk := tk_of (List.mem_of_getElem? (i := 909) (by decide +kernel)) rfl
set_option maxHeartbeats 4000000 in
set_option maxRecDepth 100000 in
theorem c_SB_append_C (g : gT) (l : Launch) (sz : Nat) (b v cp : Nat) (ml : Int32) (a : Nat → Int32) (xs : List Nat) (ht : tx xs cp a) (ch : Nat) (hc : ch < 128) (hl70 : xs.length + 1 ≤ 70) : Mg g l y_SB_append_C b_SB_append_C 2 (some (.object "java/lang/StringBuilder")) 5 125 (gc (xs.length + 1) cp) (gs (xs.length + 1) cp) [.ref b, .int (nI ch)] [(b, .inr (3, [.ref v, .int 0, .int ml, .int (nI xs.length)])), (v, .inl (gB g, cp, .inl a))] sz (qR g (fun r w1 => r = b ∧ ∃ (v' : Nat) (f : Nat → Int32), w1 = [(b, .inr (3, [.ref v', .int 0, .int ml, .int (nI (xs ++ [ch]).length)])), (v', .inl (gB g, (sb_cap (xs.length + 1) cp), .inl f))] ∧ tx (xs ++ [ch]) (sb_cap (xs.length + 1) cp) f)) := by
  refine mg_of (by decide) (Nat.le_of_ble_eq_true rfl) ?_
  intro p e s m below meth c ls A hx hb hF hr hlk hnm hA G hP hD hS hl
  have hK := G.2.1
  have hN := G.1
  have hl : lv_has ls 2 [(0, .ref b), (1, .int (nI ch))] := hl
  refine lv_aload_n hx hb d_SB_append_C_0 rfl (lv_at hl 0 rfl) ?_
  refine lv_iload_n hx hb d_SB_append_C_1 rfl (lv_at hl 1 rfl) ?_
  refine go_r (wr := []) (run_SU (C := R_SB) (hK.1 3 _ rfl).2 hF (c_A_append_C g l _ b v cp ml a xs ht ch hc hl70) k_A_append_C j_SB_50 sm_A_append_C su_SB (by decide) (va_recv hK hP (ci := 3) (q0 := 0) rfl rfl) (cw_down G hP hD hS hA [0, 1] rfl rfl) ⟨Nat.le_of_ble_eq_true rfl, Nat.le_of_ble_eq_true rfl⟩ rfl hl.1 (Nat.le_of_ble_eq_true rfl) d_SB_append_C_2 ⟨(by first | exact Nat.le_of_ble_eq_true rfl | (dsimp only; omega) | omega), (by first | exact Nat.le_of_ble_eq_true rfl | (dsimp only; omega) | omega)⟩) hP hD hS hA [0, 1] [] rfl rfl rfl (by decide) (fun r_1 w1 H locs hp hP hD hS => ?_)
  obtain ⟨er, v_2, f_2, rfl, ht_2⟩ := hp
  rw [er]
  have hP : va_P (gD g) classes [(b, .inr (3, [.ref v_2, .int 0, .int ml, .int (nI (xs ++ [ch]).length)])), (v_2, .inl (gB g, (sb_cap (xs.length + 1) cp), .inl f_2))] H := hP
  have hD : va_D A [(b, .inr (3, [.ref v_2, .int 0, .int ml, .int (nI (xs ++ [ch]).length)])), (v_2, .inl (gB g, (sb_cap (xs.length + 1) cp), .inl f_2))] := hD
  refine lv_pop hx hb d_SB_append_C_5 rfl ?_
  refine lv_aload_n hx hb d_SB_append_C_6 rfl (lv_at hl 0 rfl) ?_
  exact ret_r hx hb hr (Or.inl ⟨_, rfl⟩) hlk hP hD hS ⟨rfl, _, _, rfl, ht_2⟩ (by first | exact Nat.le_of_ble_eq_true rfl | (dsimp only; omega) | omega) (by first | exact Nat.le_of_ble_eq_true rfl | (dsimp only; omega) | omega) d_SB_append_C_7
theorem tx_ch {xs : List Nat} {cp : Nat} {a : Nat → Int32} (ht : tx xs cp a) (i : Nat) : xs.getD i 0 < 128 := by
  by_cases h : i < xs.length
  · have h1 : xs.getD i 0 ∈ xs := by
      rw [List.getD_eq_getElem?_getD, List.getElem?_eq_getElem h]
      exact List.getElem_mem h
    exact ht.2.2.2.2.1 _ h1
  · rw [List.getD_eq_getElem?_getD, List.getElem?_eq_none (by omega)]
    decide
set_option maxRecDepth 100000 in
theorem k_A_charAt : ck y_A_charAt b_A_charAt 5 (some .char) 1 (.instanceMethod y_A_charAt) := ⟨tk_of (List.mem_of_getElem? (i := 446) rfl) rfl, tk_of (List.mem_of_getElem? (i := 445) (by decide +kernel)) rfl, tk_of (List.mem_of_getElem? (i := 38) (by decide +kernel)) rfl, by decide +kernel⟩
theorem jm_A_138 : Cond.methodLink R_A 138 Lib.Math.min.name ∈ tk := tk_of (List.mem_of_getElem? (i := 447) (by decide +kernel)) rfl
theorem j_A_144 : Cond.methodLink R_A 144 y_St_checkIndex ∈ tk := tk_of (List.mem_of_getElem? (i := 448) (by decide +kernel)) rfl
set_option maxHeartbeats 4000000 in
set_option maxRecDepth 100000 in
theorem c_A_charAt (g : gT) (l : Launch) (sz : Nat) (b v cp : Nat) (ml : Int32) (a : Nat → Int32) (xs : List Nat) (ht : tx xs cp a) (i : Nat) (hi : i < xs.length) : Mg g l y_A_charAt b_A_charAt 5 (some .char) 2 43 0 0 [.ref b, .int (nI i)] [(b, .inr (3, [.ref v, .int 0, .int ml, .int (nI xs.length)])), (v, .inl (gB g, cp, .inl a))] sz (qI g (fun r w1 => r = nI (xs.getD i 0) ∧ w1 = [(b, .inr (3, [.ref v, .int 0, .int ml, .int (nI xs.length)])), (v, .inl (gB g, cp, .inl a))])) := by
  refine mg_of (by decide) (Nat.le_of_ble_eq_true rfl) ?_
  intro p e s m below meth c ls A hx hb hF hr hlk hnm hA G hP hD hS hl
  have hK := G.2.1
  have hN := G.1
  have hl : lv_has ls 5 [(0, .ref b), (1, .int (nI i))] := hl
  have ht1 := ht.1
  have ht2 := ht.2.1
  have ht3 := ht.2.2.1
  have hch := tx_ch ht i
  refine lv_aload_n hx hb d_A_charAt_0 rfl (lv_at hl 0 rfl) ?_
  refine va_get (D := gD g) (ci := 3) (v := .int 0) (C := R_SB) (T := F_SB) (N := 4) hx hb hF.2.2.2.2 in_SB hF.2.2.2.1 hK hP 0 rfl rfl 1 (by decide) (hF.2.2.2.2 _ fl_A_22) (fun _ h9 => h9) rfl d_A_charAt_1 ?_
  refine lv_istore_n (lv' := [(2, .int 0), (0, .ref b), (1, .int (nI i))]) hx hb d_A_charAt_4 rfl hl (by decide) rfl (fun ls hl => ?_)
  refine lv_aload_n hx hb d_A_charAt_5 rfl (lv_at hl 1 rfl) ?_
  refine va_get (D := gD g) (ci := 3) (v := .ref v) (C := R_SB) (T := F_SB) (N := 4) hx hb hF.2.2.2.2 in_SB hF.2.2.2.1 hK hP 0 rfl rfl 0 (by decide) (hF.2.2.2.2 _ fl_A_15) (fun _ h9 => h9) rfl d_A_charAt_6 ?_
  refine lv_astore_n (lv' := [(3, .ref v), (2, .int 0), (0, .ref b), (1, .int (nI i))]) hx hb d_A_charAt_9 rfl hl (by decide) rfl (fun ls hl => ?_)
  refine lv_aload_n hx hb d_A_charAt_10 rfl (lv_at hl 2 rfl) ?_
  refine va_get (D := gD g) (ci := 3) (v := .int (nI xs.length)) (C := R_SB) (T := F_SB) (N := 4) hx hb hF.2.2.2.2 in_SB hF.2.2.2.1 hK hP 0 rfl rfl 3 (by decide) (hF.2.2.2.2 _ fl_A_79) (fun _ h9 => h9) rfl d_A_charAt_11 ?_
  refine lv_aload_n hx hb d_A_charAt_14 rfl (lv_at hl 0 rfl) ?_
  refine va_alen hx hb hK hP 1 1 rfl rfl (v := nI cp) rfl d_A_charAt_15 ?_
  refine lv_iload_n hx hb d_A_charAt_16 rfl (lv_at hl 1 rfl) ?_
  refine lv_ishr hx hb d_A_charAt_17 ?_
  refine tp_i (sb_shr0 _) ?_
  refine va_mmin hx hb (hF.2.2.1.trans hl.1.symm) hF.2.2.2.1 (hF.2.2.2.2 _ jm_A_138) (hF.2.2.2.2 _ jms_min) (hF.2.2.2.2 _ jmi) (hF.2.2.2.2 _ jmc_min) (Nat.le_of_ble_eq_true rfl) (Nat.le_of_ble_eq_true rfl) (by first | exact Nat.le_of_ble_eq_true rfl | (dsimp only; omega) | omega) (by first | exact Nat.le_of_ble_eq_true rfl | (dsimp only; omega) | omega) d_A_charAt_18 ?_
  refine tp_i (show (if (nI cp) < (nI xs.length) then (nI cp) else (nI xs.length)) = (nI xs.length) from if_neg (nI_nlt (by omega) (by omega))) ?_
  refine lv_istore (lv' := [(4, .int (nI xs.length)), (3, .ref v), (2, .int 0), (0, .ref b), (1, .int (nI i))]) hx hb d_A_charAt_21 hl (by decide) rfl (fun ls hl => ?_)
  refine lv_iload_n hx hb d_A_charAt_23 rfl (lv_at hl 4 rfl) ?_
  refine lv_iload hx hb d_A_charAt_24 (lv_at hl 0 rfl) ?_
  refine go_v (wr := [(b, .inr (3, [.ref v, .int 0, .int ml, .int (nI xs.length)])), (v, .inl (gB g, cp, .inl a))]) (run_S hF (c_St_checkIndex g l _ (nI i) (nI xs.length) (nI_pos (by omega)) (nI_lt hi (by omega))) k_St_checkIndex j_A_144 (cw_down G hP hD hS hA [] rfl rfl) ⟨Nat.le_of_ble_eq_true rfl, Nat.le_of_ble_eq_true rfl⟩ rfl hl.1 (Nat.le_of_ble_eq_true rfl) d_A_charAt_26 ⟨(by first | exact Nat.le_of_ble_eq_true rfl | (dsimp only; omega) | omega), (by first | exact Nat.le_of_ble_eq_true rfl | (dsimp only; omega) | omega)⟩) hP hD hS hA [] [0, 1] rfl rfl rfl (by decide) (fun w1 H locs hp hP hD hS => ?_)
  obtain rfl := hp
  have hP : va_P (gD g) classes [(b, .inr (3, [.ref v, .int 0, .int ml, .int (nI xs.length)])), (v, .inl (gB g, cp, .inl a))] H := hP
  have hD : va_D A [(b, .inr (3, [.ref v, .int 0, .int ml, .int (nI xs.length)])), (v, .inl (gB g, cp, .inl a))] := hD
  refine lv_iload_n hx hb d_A_charAt_29 rfl (lv_at hl 2 rfl) ?_
  refine lv_if_ne (tgt := 42) hx hb d_A_charAt_30 (by decide) (fun c_2 => ?_) (fun c_2 => ?_)
  · exact absurd c_2 (by decide)
  · skip
    refine lv_aload_n hx hb d_A_charAt_33 rfl (lv_at hl 1 rfl) ?_
    refine lv_iload_n hx hb d_A_charAt_34 rfl (lv_at hl 4 rfl) ?_
    refine va_bald hx hb hK hP 1 1 rfl rfl (vp_in_nI (n := i) (by omega) (by omega)) d_A_charAt_35 ?_
    refine tp_i (show a (nI i).toNatClampNeg = nI (xs.getD i 0) by rw [nI_clamp (by omega)]; exact ht.2.2.2.2.2 i hi) ?_
    refine lv_sipush (v := 255) hx hb d_A_charAt_36 (by decide) ?_
    refine lv_iand hx hb d_A_charAt_39 ?_
    refine tp_i (j_b7 _ hch).2.2.2.2.1 ?_
    refine lv_i2c hx hb d_A_charAt_40 rfl ?_
    refine tp_i (j_b7 _ hch).2.2.2.2.2 ?_
    exact ret_i hx hb hr hlk (hP.sub (ws' := [(b, .inr (3, [.ref v, .int 0, .int ml, .int (nI xs.length)])), (v, .inl (gB g, cp, .inl a))]) [0, 1] rfl) (hD.sub (ws' := [(b, .inr (3, [.ref v, .int 0, .int ml, .int (nI xs.length)])), (v, .inl (gB g, cp, .inl a))]) [0, 1] rfl rfl) hS (pk_charN (by omega)).1 ⟨rfl, rfl⟩ (by first | exact Nat.le_of_ble_eq_true rfl | (dsimp only; omega) | omega) (by first | exact Nat.le_of_ble_eq_true rfl | (dsimp only; omega) | omega) d_A_charAt_41
set_option maxRecDepth 100000 in
theorem k_SB_charAt : ck y_SB_charAt b_SB_charAt 2 (some .char) 1 (.instanceMethod y_SB_charAt) := ⟨tk_of (List.mem_of_getElem? (i := 443) rfl) rfl, tk_of (List.mem_of_getElem? (i := 441) (by decide +kernel)) rfl, tk_of (List.mem_of_getElem? (i := 39) (by decide +kernel)) rfl, by decide +kernel⟩
theorem j_SB_329 : Cond.methodLink R_SB 329 y_A_charAt ∈ tk := tk_of (List.mem_of_getElem? (i := 444) (by decide +kernel)) rfl
theorem sm_A_charAt : Cond.sameMethod R_A R_A "charAt" "(I)C" ∈ tk := tk_of (List.mem_of_getElem? (i := 916) (by decide +kernel)) rfl
set_option maxHeartbeats 4000000 in
set_option maxRecDepth 100000 in
theorem c_SB_charAt (g : gT) (l : Launch) (sz : Nat) (b v cp : Nat) (ml : Int32) (a : Nat → Int32) (xs : List Nat) (ht : tx xs cp a) (i : Nat) (hi : i < xs.length) : Mg g l y_SB_charAt b_SB_charAt 2 (some .char) 3 67 0 0 [.ref b, .int (nI i)] [(b, .inr (3, [.ref v, .int 0, .int ml, .int (nI xs.length)])), (v, .inl (gB g, cp, .inl a))] sz (qI g (fun r w1 => r = nI (xs.getD i 0) ∧ w1 = [(b, .inr (3, [.ref v, .int 0, .int ml, .int (nI xs.length)])), (v, .inl (gB g, cp, .inl a))])) := by
  refine mg_of (by decide) (Nat.le_of_ble_eq_true rfl) ?_
  intro p e s m below meth c ls A hx hb hF hr hlk hnm hA G hP hD hS hl
  have hK := G.2.1
  have hN := G.1
  have hl : lv_has ls 2 [(0, .ref b), (1, .int (nI i))] := hl
  have ht1 := ht.1
  have ht2 := ht.2.1
  have ht3 := ht.2.2.1
  have hch := tx_ch ht i
  refine lv_aload_n hx hb d_SB_charAt_0 rfl (lv_at hl 0 rfl) ?_
  refine lv_iload_n hx hb d_SB_charAt_1 rfl (lv_at hl 1 rfl) ?_
  refine go_i (wr := []) (run_SU (C := R_SB) (hK.1 3 _ rfl).2 hF (c_A_charAt g l _ b v cp ml a xs ht i hi) k_A_charAt j_SB_329 sm_A_charAt su_SB (by decide) (va_recv hK hP (ci := 3) (q0 := 0) rfl rfl) (cw_down G hP hD hS hA [0, 1] rfl rfl) ⟨Nat.le_of_ble_eq_true rfl, Nat.le_of_ble_eq_true rfl⟩ rfl hl.1 (Nat.le_of_ble_eq_true rfl) d_SB_charAt_2 ⟨(by first | exact Nat.le_of_ble_eq_true rfl | (dsimp only; omega) | omega), (by first | exact Nat.le_of_ble_eq_true rfl | (dsimp only; omega) | omega)⟩) hP hD hS hA [0, 1] [] rfl rfl rfl (by decide) (fun r_1 w1 H locs hp hP hD hS => ?_)
  obtain ⟨rfl, rfl⟩ := hp
  have hP : va_P (gD g) classes [(b, .inr (3, [.ref v, .int 0, .int ml, .int (nI xs.length)])), (v, .inl (gB g, cp, .inl a))] H := hP
  have hD : va_D A [(b, .inr (3, [.ref v, .int 0, .int ml, .int (nI xs.length)])), (v, .inl (gB g, cp, .inl a))] := hD
  exact ret_i hx hb hr hlk (hP.sub (ws' := [(b, .inr (3, [.ref v, .int 0, .int ml, .int (nI xs.length)])), (v, .inl (gB g, cp, .inl a))]) [0, 1] rfl) (hD.sub (ws' := [(b, .inr (3, [.ref v, .int 0, .int ml, .int (nI xs.length)])), (v, .inl (gB g, cp, .inl a))]) [0, 1] rfl rfl) hS (pk_charN (by omega)).1 ⟨rfl, rfl⟩ (by first | exact Nat.le_of_ble_eq_true rfl | (dsimp only; omega) | omega) (by first | exact Nat.le_of_ble_eq_true rfl | (dsimp only; omega) | omega) d_SB_charAt_5
set_option maxRecDepth 100000 in
theorem k_A_setLength : ck y_A_setLength b_A_setLength 2 (none) 1 (.instanceMethod y_A_setLength) := ⟨tk_of (List.mem_of_getElem? (i := 152) rfl) rfl, tk_of (List.mem_of_getElem? (i := 151) (by decide +kernel)) rfl, tk_of (List.mem_of_getElem? (i := 38) (by decide +kernel)) rfl, by decide +kernel⟩
theorem fl_A_73 : Cond.fieldLink R_A 73 R_A "maybeLatin1" "Z" ∈ tk := tk_of (List.mem_of_getElem? (i := 86) (by decide +kernel)) rfl
set_option maxHeartbeats 4000000 in
set_option maxRecDepth 100000 in
theorem c_A_setLength (g : gT) (l : Launch) (sz : Nat) (b v cp : Nat) (ml : Int32) (a : Nat → Int32) (xs : List Nat) (ht : tx xs cp a) : Mg g l y_A_setLength b_A_setLength 2 (none) 4 104 0 0 [.ref b, .int 0] [(b, .inr (3, [.ref v, .int 0, .int ml, .int (nI xs.length)])), (v, .inl (gB g, cp, .inl a))] sz (qV g (fun w1 => ∃ (v' : Nat) (ml' : Int32) (f : Nat → Int32), w1 = [(b, .inr (3, [.ref v', .int 0, .int ml', .int (nI ([] : List Nat).length)])), (v', .inl (gB g, cp, .inl f))] ∧ tx [] cp f)) := by
  refine mg_of (by decide) (Nat.le_of_ble_eq_true rfl) ?_
  intro p e s m below meth c ls A hx hb hF hr hlk hnm hA G hP hD hS hl
  have hK := G.2.1
  have hN := G.1
  have hl : lv_has ls 2 [(0, .ref b), (1, .int 0)] := hl
  have ht1 := ht.1
  have ht2 := ht.2.1
  have ht3 := ht.2.2.1
  have hg0 : gc 0 cp = 0 := if_pos (Nat.zero_le _)
  have hg1 : gs 0 cp = 0 := if_pos (Nat.zero_le _)
  refine lv_iload_n hx hb d_A_setLength_0 rfl (lv_at hl 1 rfl) ?_
  refine lv_if_ge (tgt := 13) hx hb d_A_setLength_1 (by decide) (fun c_1 => ?_) (fun c_1 => ?_)
  · skip
    refine lv_aload_n hx hb d_A_setLength_13 rfl (lv_at hl 0 rfl) ?_
    refine lv_iload_n hx hb d_A_setLength_14 rfl (lv_at hl 1 rfl) ?_
    refine go_v (wr := []) (run_U (C := R_SB) hF (c_A_ensureCapacityInternal g l _ b v xs.length cp ml a 0 (by omega) (by omega) ht.2.2.2.1) k_A_ensureCapacityInternal j_A_100 sm_A_ensureCapacityInternal se_SB_A_ensureCapacityInternal (va_recv hK hP (ci := 3) (q0 := 0) rfl rfl) (cw_down G hP hD hS hA [0, 1] rfl rfl) ⟨Nat.le_of_ble_eq_true rfl, Nat.le_of_ble_eq_true rfl⟩ rfl hl.1 (Nat.le_of_ble_eq_true rfl) d_A_setLength_15 ⟨(by first | exact Nat.le_of_ble_eq_true rfl | (dsimp only; omega) | omega), (by first | exact Nat.le_of_ble_eq_true rfl | (dsimp only; omega) | omega)⟩) hP hD hS hA [0, 1] [] rfl rfl rfl (by decide) (fun w1 H locs hp hP hD hS => ?_)
    obtain ⟨v_3, f_3, rfl, hfit2, hkeep2⟩ := hp
    rw [show sb_cap 0 cp = cp from if_pos (Nat.zero_le _)] at hP hD
    have hP : va_P (gD g) classes [(b, .inr (3, [.ref v_3, .int 0, .int ml, .int (nI xs.length)])), (v_3, .inl (gB g, cp, .inl f_3))] H := hP
    have hD : va_D A [(b, .inr (3, [.ref v_3, .int 0, .int ml, .int (nI xs.length)])), (v_3, .inl (gB g, cp, .inl f_3))] := hD
    refine lv_aload_n hx hb d_A_setLength_18 rfl (lv_at hl 0 rfl) ?_
    refine va_get (D := gD g) (ci := 3) (v := .int (nI xs.length)) (C := R_SB) (T := F_SB) (N := 4) hx hb hF.2.2.2.2 in_SB hF.2.2.2.1 hK hP 0 rfl rfl 3 (by decide) (hF.2.2.2.2 _ fl_A_79) (fun _ h9 => h9) rfl d_A_setLength_19 ?_
    refine lv_iload_n hx hb d_A_setLength_22 rfl (lv_at hl 1 rfl) ?_
    refine lv_icmp_ge (tgt := 63) hx hb d_A_setLength_23 (by decide) (fun c_4 => ?_) (fun c_4 => absurd (nI_pos' (by omega)) c_4)
    refine lv_aload_n hx hb d_A_setLength_63 rfl (lv_at hl 0 rfl) ?_
    refine va_get (D := gD g) (ci := 3) (v := .int (nI xs.length)) (C := R_SB) (T := F_SB) (N := 4) hx hb hF.2.2.2.2 in_SB hF.2.2.2.1 hK hP 0 rfl rfl 3 (by decide) (hF.2.2.2.2 _ fl_A_79) (fun _ h9 => h9) rfl d_A_setLength_64 ?_
    refine lv_iload_n hx hb d_A_setLength_67 rfl (lv_at hl 1 rfl) ?_
    refine lv_icmp_le (tgt := 76) hx hb d_A_setLength_68 (by decide) (fun c_5 => ?_) (fun c_5 => ?_)
    · skip
      refine lv_aload_n hx hb d_A_setLength_76 rfl (lv_at hl 0 rfl) ?_
      refine lv_iload_n hx hb d_A_setLength_77 rfl (lv_at hl 1 rfl) ?_
      refine tp_i (show (0 : Int32) = nI ([] : List Nat).length from rfl) ?_
      refine va_put (D := gD g) (ci := 3) (v := .int (nI ([] : List Nat).length)) (ty := .int) (C := R_SB) (T := F_SB) (N := 4) hx hb hF.2.2.2.2 in_SB t_SB t_SB_ok n_SB hF.2.2.2.1 hK hP hD hS 0 rfl rfl 3 (by decide) (hF.2.2.2.2 _ fl_A_79) (fun _ h9 => h9) rfl (by decide +kernel) rfl rfl (Nat.le_of_ble_eq_true rfl) d_A_setLength_78 (fun H locs hP hD hS => ?_)
      have hP : va_P (gD g) classes [(b, .inr (3, [.ref v_3, .int 0, .int ml, .int (nI ([] : List Nat).length)])), (v_3, .inl (gB g, cp, .inl f_3))] H := hP
      have hD : va_D A [(b, .inr (3, [.ref v_3, .int 0, .int ml, .int (nI ([] : List Nat).length)])), (v_3, .inl (gB g, cp, .inl f_3))] := hD
      exact ret_v hx hb hr hlk hP hD hS ⟨_, _, _, rfl, ⟨Nat.zero_le _, ht2, ht3, hfit2, fun x hx => absurd hx List.not_mem_nil, fun i hi => absurd hi (Nat.not_lt_zero i)⟩⟩ (by first | exact Nat.le_of_ble_eq_true rfl | (dsimp only; omega) | omega) (by first | exact Nat.le_of_ble_eq_true rfl | (dsimp only; omega) | omega) d_A_setLength_81
    · skip
      refine lv_aload_n hx hb d_A_setLength_71 rfl (lv_at hl 0 rfl) ?_
      refine lv_iconst (v := 1) hx hb d_A_setLength_72 (by decide) ?_
      refine va_put (D := gD g) (ci := 3) (v := .int 1) (ty := .boolean) (C := R_SB) (T := F_SB) (N := 4) hx hb hF.2.2.2.2 in_SB t_SB t_SB_ok n_SB hF.2.2.2.1 hK hP hD hS 0 rfl rfl 2 (by decide) (hF.2.2.2.2 _ fl_A_73) (fun _ h9 => h9) rfl (by decide +kernel) (by decide) (by decide) (Nat.le_of_ble_eq_true rfl) d_A_setLength_73 (fun H locs hP hD hS => ?_)
      have hP : va_P (gD g) classes [(b, .inr (3, [.ref v_3, .int 0, .int 1, .int (nI xs.length)])), (v_3, .inl (gB g, cp, .inl f_3))] H := hP
      have hD : va_D A [(b, .inr (3, [.ref v_3, .int 0, .int 1, .int (nI xs.length)])), (v_3, .inl (gB g, cp, .inl f_3))] := hD
      refine lv_aload_n hx hb d_A_setLength_76 rfl (lv_at hl 0 rfl) ?_
      refine lv_iload_n hx hb d_A_setLength_77 rfl (lv_at hl 1 rfl) ?_
      refine tp_i (show (0 : Int32) = nI ([] : List Nat).length from rfl) ?_
      refine va_put (D := gD g) (ci := 3) (v := .int (nI ([] : List Nat).length)) (ty := .int) (C := R_SB) (T := F_SB) (N := 4) hx hb hF.2.2.2.2 in_SB t_SB t_SB_ok n_SB hF.2.2.2.1 hK hP hD hS 0 rfl rfl 3 (by decide) (hF.2.2.2.2 _ fl_A_79) (fun _ h9 => h9) rfl (by decide +kernel) rfl rfl (Nat.le_of_ble_eq_true rfl) d_A_setLength_78 (fun H locs hP hD hS => ?_)
      have hP : va_P (gD g) classes [(b, .inr (3, [.ref v_3, .int 0, .int 1, .int (nI ([] : List Nat).length)])), (v_3, .inl (gB g, cp, .inl f_3))] H := hP
      have hD : va_D A [(b, .inr (3, [.ref v_3, .int 0, .int 1, .int (nI ([] : List Nat).length)])), (v_3, .inl (gB g, cp, .inl f_3))] := hD
      exact ret_v hx hb hr hlk hP hD hS ⟨_, _, _, rfl, ⟨Nat.zero_le _, ht2, ht3, hfit2, fun x hx => absurd hx List.not_mem_nil, fun i hi => absurd hi (Nat.not_lt_zero i)⟩⟩ (by first | exact Nat.le_of_ble_eq_true rfl | (dsimp only; omega) | omega) (by first | exact Nat.le_of_ble_eq_true rfl | (dsimp only; omega) | omega) d_A_setLength_81
  · exact absurd c_1 (by decide)
set_option maxRecDepth 100000 in
theorem k_SB_setLength : ck y_SB_setLength b_SB_setLength 2 (none) 1 (.instanceMethod y_SB_setLength) := ⟨tk_of (List.mem_of_getElem? (i := 149) rfl) rfl, tk_of (List.mem_of_getElem? (i := 147) (by decide +kernel)) rfl, tk_of (List.mem_of_getElem? (i := 39) (by decide +kernel)) rfl, by decide +kernel⟩
theorem j_SB_333 : Cond.methodLink R_SB 333 y_A_setLength ∈ tk := tk_of (List.mem_of_getElem? (i := 150) (by decide +kernel)) rfl
theorem sm_A_setLength : Cond.sameMethod R_A R_A "setLength" "(I)V" ∈ tk := tk_of (List.mem_of_getElem? (i := 906) (by decide +kernel)) rfl
set_option maxHeartbeats 4000000 in
set_option maxRecDepth 100000 in
theorem c_SB_setLength (g : gT) (l : Launch) (sz : Nat) (b v cp : Nat) (ml : Int32) (a : Nat → Int32) (xs : List Nat) (ht : tx xs cp a) : Mg g l y_SB_setLength b_SB_setLength 2 (none) 5 125 0 0 [.ref b, .int 0] [(b, .inr (3, [.ref v, .int 0, .int ml, .int (nI xs.length)])), (v, .inl (gB g, cp, .inl a))] sz (qV g (fun w1 => ∃ (v' : Nat) (ml' : Int32) (f : Nat → Int32), w1 = [(b, .inr (3, [.ref v', .int 0, .int ml', .int (nI ([] : List Nat).length)])), (v', .inl (gB g, cp, .inl f))] ∧ tx [] cp f)) := by
  refine mg_of (by decide) (Nat.le_of_ble_eq_true rfl) ?_
  intro p e s m below meth c ls A hx hb hF hr hlk hnm hA G hP hD hS hl
  have hK := G.2.1
  have hN := G.1
  have hl : lv_has ls 2 [(0, .ref b), (1, .int 0)] := hl
  refine lv_aload_n hx hb d_SB_setLength_0 rfl (lv_at hl 0 rfl) ?_
  refine lv_iload_n hx hb d_SB_setLength_1 rfl (lv_at hl 1 rfl) ?_
  refine go_v (wr := []) (run_SU (C := R_SB) (hK.1 3 _ rfl).2 hF (c_A_setLength g l _ b v cp ml a xs ht) k_A_setLength j_SB_333 sm_A_setLength su_SB (by decide) (va_recv hK hP (ci := 3) (q0 := 0) rfl rfl) (cw_down G hP hD hS hA [0, 1] rfl rfl) ⟨Nat.le_of_ble_eq_true rfl, Nat.le_of_ble_eq_true rfl⟩ rfl hl.1 (Nat.le_of_ble_eq_true rfl) d_SB_setLength_2 ⟨(by first | exact Nat.le_of_ble_eq_true rfl | (dsimp only; omega) | omega), (by first | exact Nat.le_of_ble_eq_true rfl | (dsimp only; omega) | omega)⟩) hP hD hS hA [0, 1] [] rfl rfl rfl (by decide) (fun w1 H locs hp hP hD hS => ?_)
  obtain ⟨v_2, ml_2, f_2, rfl, ht_2⟩ := hp
  have hP : va_P (gD g) classes [(b, .inr (3, [.ref v_2, .int 0, .int ml_2, .int (nI ([] : List Nat).length)])), (v_2, .inl (gB g, cp, .inl f_2))] H := hP
  have hD : va_D A [(b, .inr (3, [.ref v_2, .int 0, .int ml_2, .int (nI ([] : List Nat).length)])), (v_2, .inl (gB g, cp, .inl f_2))] := hD
  exact ret_v hx hb hr hlk hP hD hS ⟨_, _, _, rfl, ht_2⟩ (by first | exact Nat.le_of_ble_eq_true rfl | (dsimp only; omega) | omega) (by first | exact Nat.le_of_ble_eq_true rfl | (dsimp only; omega) | omega) d_SB_setLength_5
