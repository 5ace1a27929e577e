theorem p_slot {i : Int32} (h : ¬ f_P_isSlot i = 0) : vp_in i 8 := by
  have h1 : ¬ i < 0 := fun q => h (by rw [f_P_isSlot, if_pos q])
  obtain ⟨j, hj, rfl⟩ := nI_of h1
  refine vp_in_nI ?_ (by decide)
  rcases Nat.lt_or_ge j 8 with q | q
  · exact q
  · exact absurd (by rw [f_P_isSlot, if_neg h1, if_pos (show (8 : Int32) ≤ nI j from nI_le (a := 8) q hj)]) h
def f_P_typeOf (hd : Nat → Int32) (i : Int32) : Int32 := (if (f_P_isSlot i) = 0 then (-1) else (hd (i : Int32).toNatClampNeg))
set_option maxRecDepth 100000 in
theorem k_P_typeOf : ck y_P_typeOf b_P_typeOf 2 (some .int) 1 (.instanceMethod y_P_typeOf) := ⟨tk_of (List.mem_of_getElem? (i := 644) rfl) rfl, tk_of (List.mem_of_getElem? (i := 642) (by decide +kernel)) rfl, tk_of (List.mem_of_getElem? (i := 36) (by decide +kernel)) rfl, by decide +kernel⟩
theorem j_P_106 : Cond.methodLink R_P 106 y_P_isSlot ∈ tk := tk_of (List.mem_of_getElem? (i := 635) (by decide +kernel)) rfl
theorem fl_P_9 : Cond.fieldLink R_P 9 R_P "held" "[I" ∈ tk := tk_of (List.mem_of_getElem? (i := 115) (by decide +kernel)) rfl
set_option maxHeartbeats 4000000 in
set_option maxRecDepth 100000 in
theorem c_P_typeOf (g : gT) (l : Launch) (sz : Nat) (p0 ha s0 q0 : Nat) (hd : Nat → Int32) (i : Int32) : Mg g l y_P_typeOf b_P_typeOf 2 (some .int) 1 20 0 0 [.ref p0, .int i] [(p0, .inr (0, [.ref ha, .ref s0, .ref q0])), (ha, .inl (gI g, 8, .inl hd))] sz (qI g (fun r w1 => r = f_P_typeOf hd i ∧ w1 = [(p0, .inr (0, [.ref ha, .ref s0, .ref q0])), (ha, .inl (gI g, 8, .inl hd))])) := by
  refine mg_of (by decide) (Nat.le_of_ble_eq_true rfl) ?_
  intro p e s m below meth c ls A hx hb hF hr hlk hnm hA G hP hD hS hl
  have hK := G.2.1
  have hN := G.1
  have hl : lv_has ls 2 [(0, .ref p0), (1, .int i)] := hl
  refine lv_iload_n hx hb d_P_typeOf_0 rfl (lv_at hl 1 rfl) ?_
  refine pm_callE hF hN (c_P_isSlot l i) k_P_isSlot j_P_106 ⟨Nat.le_of_ble_eq_true rfl, Nat.le_of_ble_eq_true rfl⟩ rfl hl.1 (Nat.le_of_ble_eq_true rfl) d_P_typeOf_1 ⟨by first | exact Nat.le_of_ble_eq_true rfl | (dsimp only; omega) | omega | exact Nat.zero_le _, by first | exact Nat.le_of_ble_eq_true rfl | (dsimp only; omega) | omega | exact Nat.zero_le _⟩ ?_
  refine lv_if_eq (tgt := 16) hx hb d_P_typeOf_4 (by decide) (fun c_2 => ?_) (fun c_2 => ?_)
  · skip
    refine lv_iconst (v := (-1)) hx hb d_P_typeOf_16 (by decide) ?_
    exact ret_i hx hb hr hlk (hP.sub (ws' := [(p0, .inr (0, [.ref ha, .ref s0, .ref q0])), (ha, .inl (gI g, 8, .inl hd))]) [0, 1] rfl) (hD.sub (ws' := [(p0, .inr (0, [.ref ha, .ref s0, .ref q0])), (ha, .inl (gI g, 8, .inl hd))]) [0, 1] rfl rfl) hS (nar_i _) ⟨by rw [f_P_typeOf, if_pos c_2], rfl⟩ (by first | exact Nat.le_of_ble_eq_true rfl | (dsimp only; omega) | omega) (by first | exact Nat.le_of_ble_eq_true rfl | (dsimp only; omega) | omega) d_P_typeOf_17
  · skip
    refine lv_aload_n hx hb d_P_typeOf_7 rfl (lv_at hl 0 rfl) ?_
    refine va_get (D := gD g) (ci := 0) (v := .ref ha) (C := R_P) (T := F_P) (N := 3) hx hb hF.2.2.2.2 in_P hF.2.2.2.1 hK hP 0 rfl rfl 0 (by decide) (hF.2.2.2.2 _ fl_P_9) (fun _ h9 => h9) rfl d_P_typeOf_8 ?_
    refine lv_iload_n hx hb d_P_typeOf_11 rfl (lv_at hl 1 rfl) ?_
    refine va_iald hx hb hK hP 1 0 rfl rfl (p_slot c_2) d_P_typeOf_12 ?_
    refine lv_goto (tgt := 17) hx hb d_P_typeOf_13 (by decide) ?_
    exact ret_i hx hb hr hlk (hP.sub (ws' := [(p0, .inr (0, [.ref ha, .ref s0, .ref q0])), (ha, .inl (gI g, 8, .inl hd))]) [0, 1] rfl) (hD.sub (ws' := [(p0, .inr (0, [.ref ha, .ref s0, .ref q0])), (ha, .inl (gI g, 8, .inl hd))]) [0, 1] rfl rfl) hS (nar_i _) ⟨by rw [f_P_typeOf, if_neg c_2], rfl⟩ (by first | exact Nat.le_of_ble_eq_true rfl | (dsimp only; omega) | omega) (by first | exact Nat.le_of_ble_eq_true rfl | (dsimp only; omega) | omega) d_P_typeOf_17
def f_P_isOf (hd : Nat → Int32) (i t : Int32) : Int32 := (if (f_P_isSlot i) = 0 then 0 else (if (f_B_isType t) = 0 then 0 else (if (hd (i : Int32).toNatClampNeg) = (-2) then 0 else (f_B_fits (hd (i : Int32).toNatClampNeg) t))))
set_option maxRecDepth 100000 in
theorem k_P_isOf : ck y_P_isOf b_P_isOf 3 (some .boolean) 2 (.instanceMethod y_P_isOf) := ⟨tk_of (List.mem_of_getElem? (i := 648) rfl) rfl, tk_of (List.mem_of_getElem? (i := 646) (by decide +kernel)) rfl, tk_of (List.mem_of_getElem? (i := 36) (by decide +kernel)) rfl, by decide +kernel⟩
set_option maxHeartbeats 4000000 in
set_option maxRecDepth 100000 in
theorem c_P_isOf (g : gT) (l : Launch) (sz : Nat) (p0 ha s0 q0 : Nat) (hd : Nat → Int32) (i t : Int32) : Mg g l y_P_isOf b_P_isOf 3 (some .boolean) 5 108 0 0 [.ref p0, .int i, .int t] [(p0, .inr (0, [.ref ha, .ref s0, .ref q0])), (ha, .inl (gI g, 8, .inl hd))] sz (qI g (fun r w1 => r = f_P_isOf hd i t ∧ w1 = [(p0, .inr (0, [.ref ha, .ref s0, .ref q0])), (ha, .inl (gI g, 8, .inl hd))])) := by
  refine mg_of (by decide) (Nat.le_of_ble_eq_true rfl) ?_
  intro p e s m below meth c ls A hx hb hF hr hlk hnm hA G hP hD hS hl
  have hK := G.2.1
  have hN := G.1
  have hl : lv_has ls 3 [(0, .ref p0), (1, .int i), (2, .int t)] := hl
  refine lv_iload_n hx hb d_P_isOf_0 rfl (lv_at hl 1 rfl) ?_
  refine pm_callE hF hN (c_P_isSlot l i) k_P_isSlot j_P_106 ⟨Nat.le_of_ble_eq_true rfl, Nat.le_of_ble_eq_true rfl⟩ rfl hl.1 (Nat.le_of_ble_eq_true rfl) d_P_isOf_1 ⟨by first | exact Nat.le_of_ble_eq_true rfl | (dsimp only; omega) | omega | exact Nat.zero_le _, by first | exact Nat.le_of_ble_eq_true rfl | (dsimp only; omega) | omega | exact Nat.zero_le _⟩ ?_
  refine lv_if_eq (tgt := 25) hx hb d_P_isOf_4 (by decide) (fun c_2 => ?_) (fun c_2 => ?_)
  · skip
    refine lv_iconst (v := 0) hx hb d_P_isOf_25 (by decide) ?_
    exact ret_i hx hb hr hlk (hP.sub (ws' := [(p0, .inr (0, [.ref ha, .ref s0, .ref q0])), (ha, .inl (gI g, 8, .inl hd))]) [0, 1] rfl) (hD.sub (ws' := [(p0, .inr (0, [.ref ha, .ref s0, .ref q0])), (ha, .inl (gI g, 8, .inl hd))]) [0, 1] rfl rfl) hS (by decide) ⟨by rw [f_P_isOf, if_pos c_2], rfl⟩ (by first | exact Nat.le_of_ble_eq_true rfl | (dsimp only; omega) | omega) (by first | exact Nat.le_of_ble_eq_true rfl | (dsimp only; omega) | omega) d_P_isOf_26
  · skip
    refine lv_iload_n hx hb d_P_isOf_7 rfl (lv_at hl 2 rfl) ?_
    refine pm_callNE hF hN (c_B_isType l t) k_B_isType j_P_35 ⟨Nat.le_of_ble_eq_true rfl, Nat.le_of_ble_eq_true rfl⟩ rfl hl.1 (Nat.le_of_ble_eq_true rfl) d_P_isOf_8 ⟨by first | exact Nat.le_of_ble_eq_true rfl | (dsimp only; omega) | omega | exact Nat.zero_le _, by first | exact Nat.le_of_ble_eq_true rfl | (dsimp only; omega) | omega | exact Nat.zero_le _⟩ ?_
    refine lv_if_eq (tgt := 25) hx hb d_P_isOf_11 (by decide) (fun c_4 => ?_) (fun c_4 => ?_)
    · skip
      refine lv_iconst (v := 0) hx hb d_P_isOf_25 (by decide) ?_
      exact ret_i hx hb hr hlk (hP.sub (ws' := [(p0, .inr (0, [.ref ha, .ref s0, .ref q0])), (ha, .inl (gI g, 8, .inl hd))]) [0, 1] rfl) (hD.sub (ws' := [(p0, .inr (0, [.ref ha, .ref s0, .ref q0])), (ha, .inl (gI g, 8, .inl hd))]) [0, 1] rfl rfl) hS (by decide) ⟨by rw [f_P_isOf, if_neg c_2, if_pos c_4], rfl⟩ (by first | exact Nat.le_of_ble_eq_true rfl | (dsimp only; omega) | omega) (by first | exact Nat.le_of_ble_eq_true rfl | (dsimp only; omega) | omega) d_P_isOf_26
    · skip
      refine lv_aload_n hx hb d_P_isOf_14 rfl (lv_at hl 0 rfl) ?_
      refine va_get (D := gD g) (ci := 0) (v := .ref ha) (C := R_P) (T := F_P) (N := 3) hx hb hF.2.2.2.2 in_P hF.2.2.2.1 hK hP 0 rfl rfl 0 (by decide) (hF.2.2.2.2 _ fl_P_9) (fun _ h9 => h9) rfl d_P_isOf_15 ?_
      refine lv_iload_n hx hb d_P_isOf_18 rfl (lv_at hl 1 rfl) ?_
      refine va_iald hx hb hK hP 1 0 rfl rfl (p_slot c_2) d_P_isOf_19 ?_
      refine lv_bipush (v := (-2)) hx hb d_P_isOf_20 (by decide) ?_
      refine lv_icmp_ne (tgt := 27) hx hb d_P_isOf_22 (by decide) (fun c_5 => ?_) (fun c_5 => ?_)
      · skip
        refine lv_aload_n hx hb d_P_isOf_27 rfl (lv_at hl 0 rfl) ?_
        refine va_get (D := gD g) (ci := 0) (v := .ref ha) (C := R_P) (T := F_P) (N := 3) hx hb hF.2.2.2.2 in_P hF.2.2.2.1 hK hP 0 rfl rfl 0 (by decide) (hF.2.2.2.2 _ fl_P_9) (fun _ h9 => h9) rfl d_P_isOf_28 ?_
        refine lv_iload_n hx hb d_P_isOf_31 rfl (lv_at hl 1 rfl) ?_
        refine va_iald hx hb hK hP 1 0 rfl rfl (p_slot c_2) d_P_isOf_32 ?_
        refine lv_iload_n hx hb d_P_isOf_33 rfl (lv_at hl 2 rfl) ?_
        refine pm_callNE hF hN (c_B_fits l (hd (i : Int32).toNatClampNeg) t) k_B_fits j_P_89 ⟨Nat.le_of_ble_eq_true rfl, Nat.le_of_ble_eq_true rfl⟩ rfl hl.1 (Nat.le_of_ble_eq_true rfl) d_P_isOf_34 ⟨by first | exact Nat.le_of_ble_eq_true rfl | (dsimp only; omega) | omega | exact Nat.zero_le _, by first | exact Nat.le_of_ble_eq_true rfl | (dsimp only; omega) | omega | exact Nat.zero_le _⟩ ?_
        exact ret_i hx hb hr hlk (hP.sub (ws' := [(p0, .inr (0, [.ref ha, .ref s0, .ref q0])), (ha, .inl (gI g, 8, .inl hd))]) [0, 1] rfl) (hD.sub (ws' := [(p0, .inr (0, [.ref ha, .ref s0, .ref q0])), (ha, .inl (gI g, 8, .inl hd))]) [0, 1] rfl rfl) hS (nar_z (z_B_fits (hd (i : Int32).toNatClampNeg) t)) ⟨by rw [f_P_isOf, if_neg c_2, if_neg c_4, if_neg c_5], rfl⟩ (by first | exact Nat.le_of_ble_eq_true rfl | (dsimp only; omega) | omega) (by first | exact Nat.le_of_ble_eq_true rfl | (dsimp only; omega) | omega) d_P_isOf_37
      · skip
        refine lv_iconst (v := 0) hx hb d_P_isOf_25 (by decide) ?_
        exact ret_i hx hb hr hlk (hP.sub (ws' := [(p0, .inr (0, [.ref ha, .ref s0, .ref q0])), (ha, .inl (gI g, 8, .inl hd))]) [0, 1] rfl) (hD.sub (ws' := [(p0, .inr (0, [.ref ha, .ref s0, .ref q0])), (ha, .inl (gI g, 8, .inl hd))]) [0, 1] rfl rfl) hS (by decide) ⟨by rw [f_P_isOf, if_neg c_2, if_neg c_4, if_pos c_5], rfl⟩ (by first | exact Nat.le_of_ble_eq_true rfl | (dsimp only; omega) | omega) (by first | exact Nat.le_of_ble_eq_true rfl | (dsimp only; omega) | omega) d_P_isOf_26
def f_P_cast (hd : Nat → Int32) (i t : Int32) : Int32 := (if (f_P_isSlot i) = 0 then (-1) else (if (f_B_isType t) = 0 then (-1) else (if (hd (i : Int32).toNatClampNeg) = (-2) then 0 else (if (f_B_fits (hd (i : Int32).toNatClampNeg) t) = 0 then (-5) else 0))))
set_option maxRecDepth 100000 in
theorem k_P_cast : ck y_P_cast b_P_cast 3 (some .int) 2 (.instanceMethod y_P_cast) := ⟨tk_of (List.mem_of_getElem? (i := 652) rfl) rfl, tk_of (List.mem_of_getElem? (i := 650) (by decide +kernel)) rfl, tk_of (List.mem_of_getElem? (i := 36) (by decide +kernel)) rfl, by decide +kernel⟩
set_option maxHeartbeats 4000000 in
set_option maxRecDepth 100000 in
theorem c_P_cast (g : gT) (l : Launch) (sz : Nat) (p0 ha s0 q0 : Nat) (hd : Nat → Int32) (i t : Int32) : Mg g l y_P_cast b_P_cast 3 (some .int) 5 108 0 0 [.ref p0, .int i, .int t] [(p0, .inr (0, [.ref ha, .ref s0, .ref q0])), (ha, .inl (gI g, 8, .inl hd))] sz (qI g (fun r w1 => r = f_P_cast hd i t ∧ w1 = [(p0, .inr (0, [.ref ha, .ref s0, .ref q0])), (ha, .inl (gI g, 8, .inl hd))])) := by
  refine mg_of (by decide) (Nat.le_of_ble_eq_true rfl) ?_
  intro p e s m below meth c ls A hx hb hF hr hlk hnm hA G hP hD hS hl
  have hK := G.2.1
  have hN := G.1
  have hl : lv_has ls 3 [(0, .ref p0), (1, .int i), (2, .int t)] := hl
  refine lv_iload_n hx hb d_P_cast_0 rfl (lv_at hl 1 rfl) ?_
  refine pm_callE hF hN (c_P_isSlot l i) k_P_isSlot j_P_106 ⟨Nat.le_of_ble_eq_true rfl, Nat.le_of_ble_eq_true rfl⟩ rfl hl.1 (Nat.le_of_ble_eq_true rfl) d_P_cast_1 ⟨by first | exact Nat.le_of_ble_eq_true rfl | (dsimp only; omega) | omega | exact Nat.zero_le _, by first | exact Nat.le_of_ble_eq_true rfl | (dsimp only; omega) | omega | exact Nat.zero_le _⟩ ?_
  refine lv_if_eq (tgt := 14) hx hb d_P_cast_4 (by decide) (fun c_2 => ?_) (fun c_2 => ?_)
  · skip
    refine lv_iconst (v := (-1)) hx hb d_P_cast_14 (by decide) ?_
    exact ret_i hx hb hr hlk (hP.sub (ws' := [(p0, .inr (0, [.ref ha, .ref s0, .ref q0])), (ha, .inl (gI g, 8, .inl hd))]) [0, 1] rfl) (hD.sub (ws' := [(p0, .inr (0, [.ref ha, .ref s0, .ref q0])), (ha, .inl (gI g, 8, .inl hd))]) [0, 1] rfl rfl) hS (nar_i _) ⟨by rw [f_P_cast, if_pos c_2], rfl⟩ (by first | exact Nat.le_of_ble_eq_true rfl | (dsimp only; omega) | omega) (by first | exact Nat.le_of_ble_eq_true rfl | (dsimp only; omega) | omega) d_P_cast_15
  · skip
    refine lv_iload_n hx hb d_P_cast_7 rfl (lv_at hl 2 rfl) ?_
    refine pm_callNE hF hN (c_B_isType l t) k_B_isType j_P_35 ⟨Nat.le_of_ble_eq_true rfl, Nat.le_of_ble_eq_true rfl⟩ rfl hl.1 (Nat.le_of_ble_eq_true rfl) d_P_cast_8 ⟨by first | exact Nat.le_of_ble_eq_true rfl | (dsimp only; omega) | omega | exact Nat.zero_le _, by first | exact Nat.le_of_ble_eq_true rfl | (dsimp only; omega) | omega | exact Nat.zero_le _⟩ ?_
    refine lv_if_ne (tgt := 16) hx hb d_P_cast_11 (by decide) (fun c_4 => ?_) (fun c_4 => ?_)
    · skip
      refine lv_aload_n hx hb d_P_cast_16 rfl (lv_at hl 0 rfl) ?_
      refine va_get (D := gD g) (ci := 0) (v := .ref ha) (C := R_P) (T := F_P) (N := 3) hx hb hF.2.2.2.2 in_P hF.2.2.2.1 hK hP 0 rfl rfl 0 (by decide) (hF.2.2.2.2 _ fl_P_9) (fun _ h9 => h9) rfl d_P_cast_17 ?_
      refine lv_iload_n hx hb d_P_cast_20 rfl (lv_at hl 1 rfl) ?_
      refine va_iald hx hb hK hP 1 0 rfl rfl (p_slot c_2) d_P_cast_21 ?_
      refine lv_bipush (v := (-2)) hx hb d_P_cast_22 (by decide) ?_
      refine lv_icmp_eq (tgt := 40) hx hb d_P_cast_24 (by decide) (fun c_5 => ?_) (fun c_5 => ?_)
      · skip
        refine lv_iconst (v := 0) hx hb d_P_cast_40 (by decide) ?_
        refine lv_goto (tgt := 46) hx hb d_P_cast_41 (by decide) ?_
        exact ret_i hx hb hr hlk (hP.sub (ws' := [(p0, .inr (0, [.ref ha, .ref s0, .ref q0])), (ha, .inl (gI g, 8, .inl hd))]) [0, 1] rfl) (hD.sub (ws' := [(p0, .inr (0, [.ref ha, .ref s0, .ref q0])), (ha, .inl (gI g, 8, .inl hd))]) [0, 1] rfl rfl) hS (nar_i _) ⟨by rw [f_P_cast, if_neg c_2, if_neg c_4, if_pos c_5], rfl⟩ (by first | exact Nat.le_of_ble_eq_true rfl | (dsimp only; omega) | omega) (by first | exact Nat.le_of_ble_eq_true rfl | (dsimp only; omega) | omega) d_P_cast_46
      · skip
        refine lv_aload_n hx hb d_P_cast_27 rfl (lv_at hl 0 rfl) ?_
        refine va_get (D := gD g) (ci := 0) (v := .ref ha) (C := R_P) (T := F_P) (N := 3) hx hb hF.2.2.2.2 in_P hF.2.2.2.1 hK hP 0 rfl rfl 0 (by decide) (hF.2.2.2.2 _ fl_P_9) (fun _ h9 => h9) rfl d_P_cast_28 ?_
        refine lv_iload_n hx hb d_P_cast_31 rfl (lv_at hl 1 rfl) ?_
        refine va_iald hx hb hK hP 1 0 rfl rfl (p_slot c_2) d_P_cast_32 ?_
        refine lv_iload_n hx hb d_P_cast_33 rfl (lv_at hl 2 rfl) ?_
        refine pm_callNE hF hN (c_B_fits l (hd (i : Int32).toNatClampNeg) t) k_B_fits j_P_89 ⟨Nat.le_of_ble_eq_true rfl, Nat.le_of_ble_eq_true rfl⟩ rfl hl.1 (Nat.le_of_ble_eq_true rfl) d_P_cast_34 ⟨by first | exact Nat.le_of_ble_eq_true rfl | (dsimp only; omega) | omega | exact Nat.zero_le _, by first | exact Nat.le_of_ble_eq_true rfl | (dsimp only; omega) | omega | exact Nat.zero_le _⟩ ?_
        refine lv_if_eq (tgt := 44) hx hb d_P_cast_37 (by decide) (fun c_7 => ?_) (fun c_7 => ?_)
        · skip
          refine lv_bipush (v := (-5)) hx hb d_P_cast_44 (by decide) ?_
          exact ret_i hx hb hr hlk (hP.sub (ws' := [(p0, .inr (0, [.ref ha, .ref s0, .ref q0])), (ha, .inl (gI g, 8, .inl hd))]) [0, 1] rfl) (hD.sub (ws' := [(p0, .inr (0, [.ref ha, .ref s0, .ref q0])), (ha, .inl (gI g, 8, .inl hd))]) [0, 1] rfl rfl) hS (nar_i _) ⟨by rw [f_P_cast, if_neg c_2, if_neg c_4, if_neg c_5, if_pos c_7], rfl⟩ (by first | exact Nat.le_of_ble_eq_true rfl | (dsimp only; omega) | omega) (by first | exact Nat.le_of_ble_eq_true rfl | (dsimp only; omega) | omega) d_P_cast_46
        · skip
          refine lv_iconst (v := 0) hx hb d_P_cast_40 (by decide) ?_
          refine lv_goto (tgt := 46) hx hb d_P_cast_41 (by decide) ?_
          exact ret_i hx hb hr hlk (hP.sub (ws' := [(p0, .inr (0, [.ref ha, .ref s0, .ref q0])), (ha, .inl (gI g, 8, .inl hd))]) [0, 1] rfl) (hD.sub (ws' := [(p0, .inr (0, [.ref ha, .ref s0, .ref q0])), (ha, .inl (gI g, 8, .inl hd))]) [0, 1] rfl rfl) hS (nar_i _) ⟨by rw [f_P_cast, if_neg c_2, if_neg c_4, if_neg c_5, if_neg c_7], rfl⟩ (by first | exact Nat.le_of_ble_eq_true rfl | (dsimp only; omega) | omega) (by first | exact Nat.le_of_ble_eq_true rfl | (dsimp only; omega) | omega) d_P_cast_46
    · skip
      refine lv_iconst (v := (-1)) hx hb d_P_cast_14 (by decide) ?_
      exact ret_i hx hb hr hlk (hP.sub (ws' := [(p0, .inr (0, [.ref ha, .ref s0, .ref q0])), (ha, .inl (gI g, 8, .inl hd))]) [0, 1] rfl) (hD.sub (ws' := [(p0, .inr (0, [.ref ha, .ref s0, .ref q0])), (ha, .inl (gI g, 8, .inl hd))]) [0, 1] rfl rfl) hS (nar_i _) ⟨by rw [f_P_cast, if_neg c_2, if_pos c_4], rfl⟩ (by first | exact Nat.le_of_ble_eq_true rfl | (dsimp only; omega) | omega) (by first | exact Nat.le_of_ble_eq_true rfl | (dsimp only; omega) | omega) d_P_cast_15
def f_P_light (hd : Nat → Int32) (i : Int32) : Int32 := (if (f_P_isSlot i) = 0 then (-1) else (if (hd (i : Int32).toNatClampNeg) = (-2) then (-2) else (if (hd (i : Int32).toNatClampNeg) = 14 then 114 else (if (hd (i : Int32).toNatClampNeg) = 16 then 1 else (if (hd (i : Int32).toNatClampNeg) = 17 then 12 else (-3))))))
set_option maxRecDepth 100000 in
theorem k_P_light : ck y_P_light b_P_light 2 (some .int) 1 (.instanceMethod y_P_light) := ⟨tk_of (List.mem_of_getElem? (i := 656) rfl) rfl, tk_of (List.mem_of_getElem? (i := 654) (by decide +kernel)) rfl, tk_of (List.mem_of_getElem? (i := 36) (by decide +kernel)) rfl, by decide +kernel⟩
set_option maxHeartbeats 4000000 in
set_option maxRecDepth 100000 in
theorem c_P_light (g : gT) (l : Launch) (sz : Nat) (p0 ha s0 q0 : Nat) (hd : Nat → Int32) (i : Int32) : Mg g l y_P_light b_P_light 2 (some .int) 1 20 0 0 [.ref p0, .int i] [(p0, .inr (0, [.ref ha, .ref s0, .ref q0])), (ha, .inl (gI g, 8, .inl hd))] sz (qI g (fun r w1 => r = f_P_light hd i ∧ w1 = [(p0, .inr (0, [.ref ha, .ref s0, .ref q0])), (ha, .inl (gI g, 8, .inl hd))])) := by
  refine mg_of (by decide) (Nat.le_of_ble_eq_true rfl) ?_
  intro p e s m below meth c ls A hx hb hF hr hlk hnm hA G hP hD hS hl
  have hK := G.2.1
  have hN := G.1
  have hl : lv_has ls 2 [(0, .ref p0), (1, .int i)] := hl
  refine lv_iload_n hx hb d_P_light_0 rfl (lv_at hl 1 rfl) ?_
  refine pm_callE hF hN (c_P_isSlot l i) k_P_isSlot j_P_106 ⟨Nat.le_of_ble_eq_true rfl, Nat.le_of_ble_eq_true rfl⟩ rfl hl.1 (Nat.le_of_ble_eq_true rfl) d_P_light_1 ⟨by first | exact Nat.le_of_ble_eq_true rfl | (dsimp only; omega) | omega | exact Nat.zero_le _, by first | exact Nat.le_of_ble_eq_true rfl | (dsimp only; omega) | omega | exact Nat.zero_le _⟩ ?_
  refine lv_if_ne (tgt := 9) hx hb d_P_light_4 (by decide) (fun c_2 => ?_) (fun c_2 => ?_)
  · skip
    refine lv_aload_n hx hb d_P_light_9 rfl (lv_at hl 0 rfl) ?_
    refine va_get (D := gD g) (ci := 0) (v := .ref ha) (C := R_P) (T := F_P) (N := 3) hx hb hF.2.2.2.2 in_P hF.2.2.2.1 hK hP 0 rfl rfl 0 (by decide) (hF.2.2.2.2 _ fl_P_9) (fun _ h9 => h9) rfl d_P_light_10 ?_
    refine lv_iload_n hx hb d_P_light_13 rfl (lv_at hl 1 rfl) ?_
    refine va_iald hx hb hK hP 1 0 rfl rfl (p_slot c_2) d_P_light_14 ?_
    by_cases c_3 : (hd (i : Int32).toNatClampNeg) = (-2)
    · refine lv_lookup (tgt := 56) (off := 41) hx hb d_P_light_15 (by decide) (by rw [c_3]; decide) (by decide) ?_
      refine lv_bipush (v := (-2)) hx hb d_P_light_56 (by decide) ?_
      exact ret_i hx hb hr hlk (hP.sub (ws' := [(p0, .inr (0, [.ref ha, .ref s0, .ref q0])), (ha, .inl (gI g, 8, .inl hd))]) [0, 1] rfl) (hD.sub (ws' := [(p0, .inr (0, [.ref ha, .ref s0, .ref q0])), (ha, .inl (gI g, 8, .inl hd))]) [0, 1] rfl rfl) hS (nar_i _) ⟨by rw [f_P_light, if_neg c_2, if_pos c_3], rfl⟩ (by first | exact Nat.le_of_ble_eq_true rfl | (dsimp only; omega) | omega) (by first | exact Nat.le_of_ble_eq_true rfl | (dsimp only; omega) | omega) d_P_light_58
    by_cases c_4 : (hd (i : Int32).toNatClampNeg) = 14
    · refine lv_lookup (tgt := 64) (off := 49) hx hb d_P_light_15 (by decide) (by rw [c_4]; decide) (by decide) ?_
      refine lv_bipush (v := 114) hx hb d_P_light_64 (by decide) ?_
      exact ret_i hx hb hr hlk (hP.sub (ws' := [(p0, .inr (0, [.ref ha, .ref s0, .ref q0])), (ha, .inl (gI g, 8, .inl hd))]) [0, 1] rfl) (hD.sub (ws' := [(p0, .inr (0, [.ref ha, .ref s0, .ref q0])), (ha, .inl (gI g, 8, .inl hd))]) [0, 1] rfl rfl) hS (nar_i _) ⟨by rw [f_P_light, if_neg c_2, if_neg c_3, if_pos c_4], rfl⟩ (by first | exact Nat.le_of_ble_eq_true rfl | (dsimp only; omega) | omega) (by first | exact Nat.le_of_ble_eq_true rfl | (dsimp only; omega) | omega) d_P_light_66
    by_cases c_5 : (hd (i : Int32).toNatClampNeg) = 16
    · refine lv_lookup (tgt := 59) (off := 44) hx hb d_P_light_15 (by decide) (by rw [c_5]; decide) (by decide) ?_
      refine lv_iconst (v := 1) hx hb d_P_light_59 (by decide) ?_
      exact ret_i hx hb hr hlk (hP.sub (ws' := [(p0, .inr (0, [.ref ha, .ref s0, .ref q0])), (ha, .inl (gI g, 8, .inl hd))]) [0, 1] rfl) (hD.sub (ws' := [(p0, .inr (0, [.ref ha, .ref s0, .ref q0])), (ha, .inl (gI g, 8, .inl hd))]) [0, 1] rfl rfl) hS (nar_i _) ⟨by rw [f_P_light, if_neg c_2, if_neg c_3, if_neg c_4, if_pos c_5], rfl⟩ (by first | exact Nat.le_of_ble_eq_true rfl | (dsimp only; omega) | omega) (by first | exact Nat.le_of_ble_eq_true rfl | (dsimp only; omega) | omega) d_P_light_60
    by_cases c_6 : (hd (i : Int32).toNatClampNeg) = 17
    · refine lv_lookup (tgt := 61) (off := 46) hx hb d_P_light_15 (by decide) (by rw [c_6]; decide) (by decide) ?_
      refine lv_bipush (v := 12) hx hb d_P_light_61 (by decide) ?_
      exact ret_i hx hb hr hlk (hP.sub (ws' := [(p0, .inr (0, [.ref ha, .ref s0, .ref q0])), (ha, .inl (gI g, 8, .inl hd))]) [0, 1] rfl) (hD.sub (ws' := [(p0, .inr (0, [.ref ha, .ref s0, .ref q0])), (ha, .inl (gI g, 8, .inl hd))]) [0, 1] rfl rfl) hS (nar_i _) ⟨by rw [f_P_light, if_neg c_2, if_neg c_3, if_neg c_4, if_neg c_5, if_pos c_6], rfl⟩ (by first | exact Nat.le_of_ble_eq_true rfl | (dsimp only; omega) | omega) (by first | exact Nat.le_of_ble_eq_true rfl | (dsimp only; omega) | omega) d_P_light_63
    refine lv_lookup (tgt := 67) (off := 52) hx hb d_P_light_15 (by decide) ((lv_osw c_3 (by decide)).trans ((lv_osw c_4 (by decide)).trans ((lv_osw c_5 (by decide)).trans ((lv_osw c_6 (by decide)).trans (rfl))))) (by decide) ?_
    refine lv_bipush (v := (-3)) hx hb d_P_light_67 (by decide) ?_
    exact ret_i hx hb hr hlk (hP.sub (ws' := [(p0, .inr (0, [.ref ha, .ref s0, .ref q0])), (ha, .inl (gI g, 8, .inl hd))]) [0, 1] rfl) (hD.sub (ws' := [(p0, .inr (0, [.ref ha, .ref s0, .ref q0])), (ha, .inl (gI g, 8, .inl hd))]) [0, 1] rfl rfl) hS (nar_i _) ⟨by rw [f_P_light, if_neg c_2, if_neg c_3, if_neg c_4, if_neg c_5, if_neg c_6], rfl⟩ (by first | exact Nat.le_of_ble_eq_true rfl | (dsimp only; omega) | omega) (by first | exact Nat.le_of_ble_eq_true rfl | (dsimp only; omega) | omega) d_P_light_69
  · skip
    refine lv_iconst (v := (-1)) hx hb d_P_light_7 (by decide) ?_
    exact ret_i hx hb hr hlk (hP.sub (ws' := [(p0, .inr (0, [.ref ha, .ref s0, .ref q0])), (ha, .inl (gI g, 8, .inl hd))]) [0, 1] rfl) (hD.sub (ws' := [(p0, .inr (0, [.ref ha, .ref s0, .ref q0])), (ha, .inl (gI g, 8, .inl hd))]) [0, 1] rfl rfl) hS (nar_i _) ⟨by rw [f_P_light, if_pos c_2], rfl⟩ (by first | exact Nat.le_of_ble_eq_true rfl | (dsimp only; omega) | omega) (by first | exact Nat.le_of_ble_eq_true rfl | (dsimp only; omega) | omega) d_P_light_8
def f_P_alike (hd : Nat → Int32) (i j : Int32) : Int32 := (if (f_P_isSlot i) = 0 then 0 else (if (f_P_isSlot j) = 0 then 0 else (if i = j then 1 else (if (hd (i : Int32).toNatClampNeg) = (hd (j : Int32).toNatClampNeg) then (if (f_P_isAlwaysAlike (hd (i : Int32).toNatClampNeg)) = 0 then 0 else 1) else 0))))
set_option maxRecDepth 100000 in
theorem k_P_alike : ck y_P_alike b_P_alike 3 (some .boolean) 2 (.instanceMethod y_P_alike) := ⟨tk_of (List.mem_of_getElem? (i := 660) rfl) rfl, tk_of (List.mem_of_getElem? (i := 658) (by decide +kernel)) rfl, tk_of (List.mem_of_getElem? (i := 36) (by decide +kernel)) rfl, by decide +kernel⟩
theorem j_P_112 : Cond.methodLink R_P 112 y_P_isAlwaysAlike ∈ tk := tk_of (List.mem_of_getElem? (i := 661) (by decide +kernel)) rfl
set_option maxHeartbeats 4000000 in
set_option maxRecDepth 100000 in
theorem c_P_alike (g : gT) (l : Launch) (sz : Nat) (p0 ha s0 q0 : Nat) (hd : Nat → Int32) (i j : Int32) : Mg g l y_P_alike b_P_alike 3 (some .boolean) 1 20 0 0 [.ref p0, .int i, .int j] [(p0, .inr (0, [.ref ha, .ref s0, .ref q0])), (ha, .inl (gI g, 8, .inl hd))] sz (qI g (fun r w1 => r = f_P_alike hd i j ∧ w1 = [(p0, .inr (0, [.ref ha, .ref s0, .ref q0])), (ha, .inl (gI g, 8, .inl hd))])) := by
  refine mg_of (by decide) (Nat.le_of_ble_eq_true rfl) ?_
  intro p e s m below meth c ls A hx hb hF hr hlk hnm hA G hP hD hS hl
  have hK := G.2.1
  have hN := G.1
  have hl : lv_has ls 3 [(0, .ref p0), (1, .int i), (2, .int j)] := hl
  refine lv_iload_n hx hb d_P_alike_0 rfl (lv_at hl 1 rfl) ?_
  refine pm_callE hF hN (c_P_isSlot l i) k_P_isSlot j_P_106 ⟨Nat.le_of_ble_eq_true rfl, Nat.le_of_ble_eq_true rfl⟩ rfl hl.1 (Nat.le_of_ble_eq_true rfl) d_P_alike_1 ⟨by first | exact Nat.le_of_ble_eq_true rfl | (dsimp only; omega) | omega | exact Nat.zero_le _, by first | exact Nat.le_of_ble_eq_true rfl | (dsimp only; omega) | omega | exact Nat.zero_le _⟩ ?_
  refine lv_if_eq (tgt := 14) hx hb d_P_alike_4 (by decide) (fun c_2 => ?_) (fun c_2 => ?_)
  · skip
    refine lv_iconst (v := 0) hx hb d_P_alike_14 (by decide) ?_
    exact ret_i hx hb hr hlk (hP.sub (ws' := [(p0, .inr (0, [.ref ha, .ref s0, .ref q0])), (ha, .inl (gI g, 8, .inl hd))]) [0, 1] rfl) (hD.sub (ws' := [(p0, .inr (0, [.ref ha, .ref s0, .ref q0])), (ha, .inl (gI g, 8, .inl hd))]) [0, 1] rfl rfl) hS (by decide) ⟨by rw [f_P_alike, if_pos c_2], rfl⟩ (by first | exact Nat.le_of_ble_eq_true rfl | (dsimp only; omega) | omega) (by first | exact Nat.le_of_ble_eq_true rfl | (dsimp only; omega) | omega) d_P_alike_15
  · skip
    refine lv_iload_n hx hb d_P_alike_7 rfl (lv_at hl 2 rfl) ?_
    refine pm_callE hF hN (c_P_isSlot l j) k_P_isSlot j_P_106 ⟨Nat.le_of_ble_eq_true rfl, Nat.le_of_ble_eq_true rfl⟩ rfl hl.1 (Nat.le_of_ble_eq_true rfl) d_P_alike_8 ⟨by first | exact Nat.le_of_ble_eq_true rfl | (dsimp only; omega) | omega | exact Nat.zero_le _, by first | exact Nat.le_of_ble_eq_true rfl | (dsimp only; omega) | omega | exact Nat.zero_le _⟩ ?_
    refine lv_if_ne (tgt := 16) hx hb d_P_alike_11 (by decide) (fun c_4 => ?_) (fun c_4 => ?_)
    · skip
      refine lv_iload_n hx hb d_P_alike_16 rfl (lv_at hl 1 rfl) ?_
      refine lv_iload_n hx hb d_P_alike_17 rfl (lv_at hl 2 rfl) ?_
      refine lv_icmp_eq (tgt := 48) hx hb d_P_alike_18 (by decide) (fun c_5 => ?_) (fun c_5 => ?_)
      · skip
        refine lv_iconst (v := 1) hx hb d_P_alike_48 (by decide) ?_
        refine lv_goto (tgt := 53) hx hb d_P_alike_49 (by decide) ?_
        exact ret_i hx hb hr hlk (hP.sub (ws' := [(p0, .inr (0, [.ref ha, .ref s0, .ref q0])), (ha, .inl (gI g, 8, .inl hd))]) [0, 1] rfl) (hD.sub (ws' := [(p0, .inr (0, [.ref ha, .ref s0, .ref q0])), (ha, .inl (gI g, 8, .inl hd))]) [0, 1] rfl rfl) hS (by decide) ⟨by rw [f_P_alike, if_neg c_2, if_neg c_4, if_pos c_5], rfl⟩ (by first | exact Nat.le_of_ble_eq_true rfl | (dsimp only; omega) | omega) (by first | exact Nat.le_of_ble_eq_true rfl | (dsimp only; omega) | omega) d_P_alike_53
      · skip
        refine lv_aload_n hx hb d_P_alike_21 rfl (lv_at hl 0 rfl) ?_
        refine va_get (D := gD g) (ci := 0) (v := .ref ha) (C := R_P) (T := F_P) (N := 3) hx hb hF.2.2.2.2 in_P hF.2.2.2.1 hK hP 0 rfl rfl 0 (by decide) (hF.2.2.2.2 _ fl_P_9) (fun _ h9 => h9) rfl d_P_alike_22 ?_
        refine lv_iload_n hx hb d_P_alike_25 rfl (lv_at hl 1 rfl) ?_
        refine va_iald hx hb hK hP 1 0 rfl rfl (p_slot c_2) d_P_alike_26 ?_
        refine lv_aload_n hx hb d_P_alike_27 rfl (lv_at hl 0 rfl) ?_
        refine va_get (D := gD g) (ci := 0) (v := .ref ha) (C := R_P) (T := F_P) (N := 3) hx hb hF.2.2.2.2 in_P hF.2.2.2.1 hK hP 0 rfl rfl 0 (by decide) (hF.2.2.2.2 _ fl_P_9) (fun _ h9 => h9) rfl d_P_alike_28 ?_
        refine lv_iload_n hx hb d_P_alike_31 rfl (lv_at hl 2 rfl) ?_
        refine va_iald hx hb hK hP 1 0 rfl rfl (p_slot c_4) d_P_alike_32 ?_
        refine lv_icmp_ne (tgt := 52) hx hb d_P_alike_33 (by decide) (fun c_6 => ?_) (fun c_6 => ?_)
        · skip
          refine lv_iconst (v := 0) hx hb d_P_alike_52 (by decide) ?_
          exact ret_i hx hb hr hlk (hP.sub (ws' := [(p0, .inr (0, [.ref ha, .ref s0, .ref q0])), (ha, .inl (gI g, 8, .inl hd))]) [0, 1] rfl) (hD.sub (ws' := [(p0, .inr (0, [.ref ha, .ref s0, .ref q0])), (ha, .inl (gI g, 8, .inl hd))]) [0, 1] rfl rfl) hS (by decide) ⟨by rw [f_P_alike, if_neg c_2, if_neg c_4, if_neg c_5, if_neg c_6], rfl⟩ (by first | exact Nat.le_of_ble_eq_true rfl | (dsimp only; omega) | omega) (by first | exact Nat.le_of_ble_eq_true rfl | (dsimp only; omega) | omega) d_P_alike_53
        · skip
          refine lv_aload_n hx hb d_P_alike_36 rfl (lv_at hl 0 rfl) ?_
          refine va_get (D := gD g) (ci := 0) (v := .ref ha) (C := R_P) (T := F_P) (N := 3) hx hb hF.2.2.2.2 in_P hF.2.2.2.1 hK hP 0 rfl rfl 0 (by decide) (hF.2.2.2.2 _ fl_P_9) (fun _ h9 => h9) rfl d_P_alike_37 ?_
          refine lv_iload_n hx hb d_P_alike_40 rfl (lv_at hl 1 rfl) ?_
          refine va_iald hx hb hK hP 1 0 rfl rfl (p_slot c_2) d_P_alike_41 ?_
          refine pm_callE hF hN (c_P_isAlwaysAlike l (hd (i : Int32).toNatClampNeg)) k_P_isAlwaysAlike j_P_112 ⟨Nat.le_of_ble_eq_true rfl, Nat.le_of_ble_eq_true rfl⟩ rfl hl.1 (Nat.le_of_ble_eq_true rfl) d_P_alike_42 ⟨by first | exact Nat.le_of_ble_eq_true rfl | (dsimp only; omega) | omega | exact Nat.zero_le _, by first | exact Nat.le_of_ble_eq_true rfl | (dsimp only; omega) | omega | exact Nat.zero_le _⟩ ?_
          refine lv_if_eq (tgt := 52) hx hb d_P_alike_45 (by decide) (fun c_8 => ?_) (fun c_8 => ?_)
          · skip
            refine lv_iconst (v := 0) hx hb d_P_alike_52 (by decide) ?_
            exact ret_i hx hb hr hlk (hP.sub (ws' := [(p0, .inr (0, [.ref ha, .ref s0, .ref q0])), (ha, .inl (gI g, 8, .inl hd))]) [0, 1] rfl) (hD.sub (ws' := [(p0, .inr (0, [.ref ha, .ref s0, .ref q0])), (ha, .inl (gI g, 8, .inl hd))]) [0, 1] rfl rfl) hS (by decide) ⟨by rw [f_P_alike, if_neg c_2, if_neg c_4, if_neg c_5, if_pos c_6, if_pos c_8], rfl⟩ (by first | exact Nat.le_of_ble_eq_true rfl | (dsimp only; omega) | omega) (by first | exact Nat.le_of_ble_eq_true rfl | (dsimp only; omega) | omega) d_P_alike_53
          · skip
            refine lv_iconst (v := 1) hx hb d_P_alike_48 (by decide) ?_
            refine lv_goto (tgt := 53) hx hb d_P_alike_49 (by decide) ?_
            exact ret_i hx hb hr hlk (hP.sub (ws' := [(p0, .inr (0, [.ref ha, .ref s0, .ref q0])), (ha, .inl (gI g, 8, .inl hd))]) [0, 1] rfl) (hD.sub (ws' := [(p0, .inr (0, [.ref ha, .ref s0, .ref q0])), (ha, .inl (gI g, 8, .inl hd))]) [0, 1] rfl rfl) hS (by decide) ⟨by rw [f_P_alike, if_neg c_2, if_neg c_4, if_neg c_5, if_pos c_6, if_neg c_8], rfl⟩ (by first | exact Nat.le_of_ble_eq_true rfl | (dsimp only; omega) | omega) (by first | exact Nat.le_of_ble_eq_true rfl | (dsimp only; omega) | omega) d_P_alike_53
    · skip
      refine lv_iconst (v := 0) hx hb d_P_alike_14 (by decide) ?_
      exact ret_i hx hb hr hlk (hP.sub (ws' := [(p0, .inr (0, [.ref ha, .ref s0, .ref q0])), (ha, .inl (gI g, 8, .inl hd))]) [0, 1] rfl) (hD.sub (ws' := [(p0, .inr (0, [.ref ha, .ref s0, .ref q0])), (ha, .inl (gI g, 8, .inl hd))]) [0, 1] rfl rfl) hS (by decide) ⟨by rw [f_P_alike, if_neg c_2, if_pos c_4], rfl⟩ (by first | exact Nat.le_of_ble_eq_true rfl | (dsimp only; omega) | omega) (by first | exact Nat.le_of_ble_eq_true rfl | (dsimp only; omega) | omega) d_P_alike_15
def zp_P_put (hd : Nat → Int32) (i t : Int32) : Int32 × (Nat → Int32) := (if (f_P_isSlot i) = 0 then (((-1) : Int32), hd) else (if t = (-1) then ((0 : Int32), (upd hd (i : Int32).toNatClampNeg (-2))) else (if (f_B_isType t) = 0 then (((-1) : Int32), hd) else (if (f_B_hasThings t) = 0 then (((-2) : Int32), hd) else ((0 : Int32), (upd hd (i : Int32).toNatClampNeg t))))))
set_option maxRecDepth 100000 in
theorem k_P_put : ck y_P_put b_P_put 3 (some .int) 2 (.instanceMethod y_P_put) := ⟨tk_of (List.mem_of_getElem? (i := 634) rfl) rfl, tk_of (List.mem_of_getElem? (i := 632) (by decide +kernel)) rfl, tk_of (List.mem_of_getElem? (i := 36) (by decide +kernel)) rfl, by decide +kernel⟩
theorem j_P_109 : Cond.methodLinkNest R_P 109 y_B_hasThings R_P ∈ nw_l := nw_of (List.mem_of_getElem? (i := 638) (by decide +kernel)) rfl
set_option maxHeartbeats 4000000 in
set_option maxRecDepth 100000 in
theorem c_P_put (g : gT) (l : Launch) (sz : Nat) (p0 ha s0 q0 : Nat) (hd : Nat → Int32) (i t : Int32) : Mg g l y_P_put b_P_put 3 (some .int) 2 40 0 0 [.ref p0, .int i, .int t] [(p0, .inr (0, [.ref ha, .ref s0, .ref q0])), (ha, .inl (gI g, 8, .inl hd))] sz (qI g (fun r w1 => r = (zp_P_put hd i t).1 ∧ w1 = [(p0, .inr (0, [.ref ha, .ref s0, .ref q0])), (ha, .inl (gI g, 8, .inl (zp_P_put hd i t).2))])) := by
  refine mg_of (by decide) (Nat.le_of_ble_eq_true rfl) ?_
  intro p e s m below meth c ls A hx hb hF hr hlk hnm hA G hP hD hS hl
  have hK := G.2.1
  have hN := G.1
  have hl : lv_has ls 3 [(0, .ref p0), (1, .int i), (2, .int t)] := hl
  refine lv_iload_n hx hb d_P_put_0 rfl (lv_at hl 1 rfl) ?_
  refine pm_callE hF hN (c_P_isSlot l i) k_P_isSlot j_P_106 ⟨Nat.le_of_ble_eq_true rfl, Nat.le_of_ble_eq_true rfl⟩ rfl hl.1 (Nat.le_of_ble_eq_true rfl) d_P_put_1 ⟨by first | exact Nat.le_of_ble_eq_true rfl | (dsimp only; omega) | omega | exact Nat.zero_le _, by first | exact Nat.le_of_ble_eq_true rfl | (dsimp only; omega) | omega | exact Nat.zero_le _⟩ ?_
  refine lv_if_eq (tgt := 19) hx hb d_P_put_4 (by decide) (fun c_2 => ?_) (fun c_2 => ?_)
  · skip
    refine lv_iconst (v := (-1)) hx hb d_P_put_19 (by decide) ?_
    have e : zp_P_put hd i t = (((-1) : Int32), hd) := by rw [zp_P_put, if_pos c_2]
    exact ret_i hx hb hr hlk (hP.sub (ws' := [(p0, .inr (0, [.ref ha, .ref s0, .ref q0])), (ha, .inl (gI g, 8, .inl hd))]) [0, 1] rfl) (hD.sub (ws' := [(p0, .inr (0, [.ref ha, .ref s0, .ref q0])), (ha, .inl (gI g, 8, .inl hd))]) [0, 1] rfl rfl) hS (nar_i _) ⟨by rw [e], by rw [e]⟩ (by first | exact Nat.le_of_ble_eq_true rfl | (dsimp only; omega) | omega) (by first | exact Nat.le_of_ble_eq_true rfl | (dsimp only; omega) | omega) d_P_put_20
  · skip
    refine lv_iload_n hx hb d_P_put_7 rfl (lv_at hl 2 rfl) ?_
    refine lv_iconst (v := (-1)) hx hb d_P_put_8 (by decide) ?_
    refine lv_icmp_eq (tgt := 21) hx hb d_P_put_9 (by decide) (fun c_3 => ?_) (fun c_3 => ?_)
    · skip
      refine lv_iload_n hx hb d_P_put_21 rfl (lv_at hl 2 rfl) ?_
      refine lv_iconst (v := (-1)) hx hb d_P_put_22 (by decide) ?_
      refine lv_icmp_ne (tgt := 36) hx hb d_P_put_23 (by decide) (fun c_4 => ?_) (fun c_4 => ?_)
      · exact absurd c_3 c_4
      · skip
        refine lv_aload_n hx hb d_P_put_26 rfl (lv_at hl 0 rfl) ?_
        refine va_get (D := gD g) (ci := 0) (v := .ref ha) (C := R_P) (T := F_P) (N := 3) hx hb hF.2.2.2.2 in_P hF.2.2.2.1 hK hP 0 rfl rfl 0 (by decide) (hF.2.2.2.2 _ fl_P_9) (fun _ h9 => h9) rfl d_P_put_27 ?_
        refine lv_iload_n hx hb d_P_put_30 rfl (lv_at hl 1 rfl) ?_
        refine lv_bipush (v := (-2)) hx hb d_P_put_31 (by decide) ?_
        refine va_iast hx hb hK hP hD hS 1 0 rfl rfl (p_slot c_2) d_P_put_33 (fun H locs hP hD hS => ?_)
        have hP : va_P (gD g) classes [(p0, .inr (0, [.ref ha, .ref s0, .ref q0])), (ha, .inl (gI g, 8, .inl (upd hd (i : Int32).toNatClampNeg (-2))))] H := hP
        have hD : va_D A [(p0, .inr (0, [.ref ha, .ref s0, .ref q0])), (ha, .inl (gI g, 8, .inl (upd hd (i : Int32).toNatClampNeg (-2))))] := hD
        refine lv_iconst (v := 0) hx hb d_P_put_34 (by decide) ?_
        have e : zp_P_put hd i t = ((0 : Int32), (upd hd (i : Int32).toNatClampNeg (-2))) := by rw [zp_P_put, if_neg c_2, if_pos c_3]
        exact ret_i hx hb hr hlk (hP.sub (ws' := [(p0, .inr (0, [.ref ha, .ref s0, .ref q0])), (ha, .inl (gI g, 8, .inl (upd hd (i : Int32).toNatClampNeg (-2))))]) [0, 1] rfl) (hD.sub (ws' := [(p0, .inr (0, [.ref ha, .ref s0, .ref q0])), (ha, .inl (gI g, 8, .inl (upd hd (i : Int32).toNatClampNeg (-2))))]) [0, 1] rfl rfl) hS (nar_i _) ⟨by rw [e], by rw [e]⟩ (by first | exact Nat.le_of_ble_eq_true rfl | (dsimp only; omega) | omega) (by first | exact Nat.le_of_ble_eq_true rfl | (dsimp only; omega) | omega) d_P_put_35
    · skip
      refine lv_iload_n hx hb d_P_put_12 rfl (lv_at hl 2 rfl) ?_
      refine pm_callNE hF hN (c_B_isType l t) k_B_isType j_P_35 ⟨Nat.le_of_ble_eq_true rfl, Nat.le_of_ble_eq_true rfl⟩ rfl hl.1 (Nat.le_of_ble_eq_true rfl) d_P_put_13 ⟨by first | exact Nat.le_of_ble_eq_true rfl | (dsimp only; omega) | omega | exact Nat.zero_le _, by first | exact Nat.le_of_ble_eq_true rfl | (dsimp only; omega) | omega | exact Nat.zero_le _⟩ ?_
      refine lv_if_ne (tgt := 21) hx hb d_P_put_16 (by decide) (fun c_6 => ?_) (fun c_6 => ?_)
      · skip
        refine lv_iload_n hx hb d_P_put_21 rfl (lv_at hl 2 rfl) ?_
        refine lv_iconst (v := (-1)) hx hb d_P_put_22 (by decide) ?_
        refine lv_icmp_ne (tgt := 36) hx hb d_P_put_23 (by decide) (fun c_7 => ?_) (fun c_7 => ?_)
        · skip
          refine lv_iload_n hx hb d_P_put_36 rfl (lv_at hl 2 rfl) ?_
          refine pm_callNE hF hN (c_B_hasThings l t) k_B_hasThings j_P_109 ⟨Nat.le_of_ble_eq_true rfl, Nat.le_of_ble_eq_true rfl⟩ rfl hl.1 (Nat.le_of_ble_eq_true rfl) d_P_put_37 ⟨by first | exact Nat.le_of_ble_eq_true rfl | (dsimp only; omega) | omega | exact Nat.zero_le _, by first | exact Nat.le_of_ble_eq_true rfl | (dsimp only; omega) | omega | exact Nat.zero_le _⟩ ?_
          refine lv_if_ne (tgt := 46) hx hb d_P_put_40 (by decide) (fun c_9 => ?_) (fun c_9 => ?_)
          · skip
            refine lv_aload_n hx hb d_P_put_46 rfl (lv_at hl 0 rfl) ?_
            refine va_get (D := gD g) (ci := 0) (v := .ref ha) (C := R_P) (T := F_P) (N := 3) hx hb hF.2.2.2.2 in_P hF.2.2.2.1 hK hP 0 rfl rfl 0 (by decide) (hF.2.2.2.2 _ fl_P_9) (fun _ h9 => h9) rfl d_P_put_47 ?_
            refine lv_iload_n hx hb d_P_put_50 rfl (lv_at hl 1 rfl) ?_
            refine lv_iload_n hx hb d_P_put_51 rfl (lv_at hl 2 rfl) ?_
            refine va_iast hx hb hK hP hD hS 1 0 rfl rfl (p_slot c_2) d_P_put_52 (fun H locs hP hD hS => ?_)
            have hP : va_P (gD g) classes [(p0, .inr (0, [.ref ha, .ref s0, .ref q0])), (ha, .inl (gI g, 8, .inl (upd hd (i : Int32).toNatClampNeg t)))] H := hP
            have hD : va_D A [(p0, .inr (0, [.ref ha, .ref s0, .ref q0])), (ha, .inl (gI g, 8, .inl (upd hd (i : Int32).toNatClampNeg t)))] := hD
            refine lv_iconst (v := 0) hx hb d_P_put_53 (by decide) ?_
            have e : zp_P_put hd i t = ((0 : Int32), (upd hd (i : Int32).toNatClampNeg t)) := by rw [zp_P_put, if_neg c_2, if_neg c_3, if_neg c_6, if_neg c_9]
            exact ret_i hx hb hr hlk (hP.sub (ws' := [(p0, .inr (0, [.ref ha, .ref s0, .ref q0])), (ha, .inl (gI g, 8, .inl (upd hd (i : Int32).toNatClampNeg t)))]) [0, 1] rfl) (hD.sub (ws' := [(p0, .inr (0, [.ref ha, .ref s0, .ref q0])), (ha, .inl (gI g, 8, .inl (upd hd (i : Int32).toNatClampNeg t)))]) [0, 1] rfl rfl) hS (nar_i _) ⟨by rw [e], by rw [e]⟩ (by first | exact Nat.le_of_ble_eq_true rfl | (dsimp only; omega) | omega) (by first | exact Nat.le_of_ble_eq_true rfl | (dsimp only; omega) | omega) d_P_put_54
          · skip
            refine lv_bipush (v := (-2)) hx hb d_P_put_43 (by decide) ?_
            have e : zp_P_put hd i t = (((-2) : Int32), hd) := by rw [zp_P_put, if_neg c_2, if_neg c_3, if_neg c_6, if_pos c_9]
            exact ret_i hx hb hr hlk (hP.sub (ws' := [(p0, .inr (0, [.ref ha, .ref s0, .ref q0])), (ha, .inl (gI g, 8, .inl hd))]) [0, 1] rfl) (hD.sub (ws' := [(p0, .inr (0, [.ref ha, .ref s0, .ref q0])), (ha, .inl (gI g, 8, .inl hd))]) [0, 1] rfl rfl) hS (nar_i _) ⟨by rw [e], by rw [e]⟩ (by first | exact Nat.le_of_ble_eq_true rfl | (dsimp only; omega) | omega) (by first | exact Nat.le_of_ble_eq_true rfl | (dsimp only; omega) | omega) d_P_put_45
        · exact absurd c_7 c_3
      · skip
        refine lv_iconst (v := (-1)) hx hb d_P_put_19 (by decide) ?_
        have e : zp_P_put hd i t = (((-1) : Int32), hd) := by rw [zp_P_put, if_neg c_2, if_neg c_3, if_pos c_6]
        exact ret_i hx hb hr hlk (hP.sub (ws' := [(p0, .inr (0, [.ref ha, .ref s0, .ref q0])), (ha, .inl (gI g, 8, .inl hd))]) [0, 1] rfl) (hD.sub (ws' := [(p0, .inr (0, [.ref ha, .ref s0, .ref q0])), (ha, .inl (gI g, 8, .inl hd))]) [0, 1] rfl rfl) hS (nar_i _) ⟨by rw [e], by rw [e]⟩ (by first | exact Nat.le_of_ble_eq_true rfl | (dsimp only; omega) | omega) (by first | exact Nat.le_of_ble_eq_true rfl | (dsimp only; omega) | omega) d_P_put_20
