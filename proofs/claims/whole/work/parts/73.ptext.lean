theorem b_pjd : ∀ j : Nat, j < 120 → f_M_isType (nI j) = 0 ∨ (f_B_plain (nI j) = nI (f_B_plain (nI j)).toNatClampNeg ∧ (f_B_plain (nI j)).toNatClampNeg < 25 ∧ f_B_levels (nI j) ≤ 2) := by decide +kernel
theorem b_pj {t : Int32} (h : ¬ f_B_isType t = 0) : f_B_plain t = nI (f_B_plain t).toNatClampNeg ∧ (f_B_plain t).toNatClampNeg < 25 ∧ f_B_levels t ≤ 2 := by
  rw [e_isType] at h
  obtain ⟨j, hj, rfl⟩ := isT_nI h
  exact (b_pjd j hj).resolve_left h
theorem nI_self {i : Int32} (h : ¬ i < 0) : i = nI i.toNatClampNeg := by
  obtain ⟨j, hj, rfl⟩ := nI_of h
  rw [nI_clamp hj]
def f_P_writeText (t wh : Int32) : Int32 := (if (f_B_isType t) = 0 then (-1) else (if wh < 0 then (-1) else (if wh ≤ 7 then (if (zf_S_write t (f_B_plain t).toNatClampNeg wh).2 = 0 then (-2) else (nI (zf_S_write t (f_B_plain t).toNatClampNeg wh).1.length)) else (-1))))
set_option maxRecDepth 100000 in
theorem k_P_writeText : ck y_P_writeText b_P_writeText 3 (some .int) 2 (.instanceMethod y_P_writeText) := ⟨tk_of (List.mem_of_getElem? (i := 132) rfl) rfl, tk_of (List.mem_of_getElem? (i := 131) (by decide +kernel)) rfl, tk_of (List.mem_of_getElem? (i := 36) (by decide +kernel)) rfl, by decide +kernel⟩
theorem fl_P_16 : Cond.fieldLink R_P 16 R_P "script" "LClassProbe$Script;" ∈ tk := tk_of (List.mem_of_getElem? (i := 116) (by decide +kernel)) rfl
theorem j_P_115 : Cond.methodLinkNest R_P 115 y_S_write R_P ∈ nw_l := nw_of (List.mem_of_getElem? (i := 142) (by decide +kernel)) rfl
theorem se_S_S_write : Cond.selects R_S y_S_write y_S_write ∈ tk := tk_of (List.mem_of_getElem? (i := 1) (by decide +kernel)) rfl
theorem j_P_118 : Cond.methodLinkNest R_P 118 y_S_length R_P ∈ nw_l := nw_of (List.mem_of_getElem? (i := 432) (by decide +kernel)) rfl
theorem se_S_S_length : Cond.selects R_S y_S_length y_S_length ∈ tk := tk_of (List.mem_of_getElem? (i := 10) (by decide +kernel)) rfl
set_option maxHeartbeats 4000000 in
set_option maxRecDepth 100000 in
theorem c_P_writeText (g : gT) (l : Launch) (sz : Nat) (p0 ha q0 : Nat) (s0 b v cp : Nat) (ml : Int32) (a : Nat → Int32) (xs : List Nat) (ht : tx xs cp a) (t wh : Int32) : Mg g l y_P_writeText b_P_writeText 3 (some .int) 10 238 60 2200 [.ref p0, .int t, .int wh] [(p0, .inr (0, [.ref ha, .ref s0, .ref q0])), (s0, .inr (1, [.ref b])), (b, .inr (3, [.ref v, .int 0, .int ml, .int (nI xs.length)])), (v, .inl (gB g, cp, .inl a))] sz (qI g (fun r w1 => ∃ (L : List Nat) (v' cp' : Nat) (ml' : Int32) (f : Nat → Int32), w1 = [(p0, .inr (0, [.ref ha, .ref s0, .ref q0])), (s0, .inr (1, [.ref b])), (b, .inr (3, [.ref v', .int 0, .int ml', .int (nI L.length)])), (v', .inl (gB g, cp', .inl f))] ∧ tx L cp' f ∧ r = (f_P_writeText t wh) ∧ (0 ≤ (f_P_writeText t wh) → L = (zf_S_write t (f_B_plain t).toNatClampNeg wh).1 ∧ (f_P_writeText t wh) = nI L.length))) := by
  refine mg_of (by decide) (Nat.le_of_ble_eq_true rfl) ?_
  intro p e s m below meth c ls A hx hb hF hr hlk hnm hA G hP hD hS hl
  have hK := G.2.1
  have hN := G.1
  have hl : lv_has ls 3 [(0, .ref p0), (1, .int t), (2, .int wh)] := hl
  refine lv_iload_n hx hb d_P_writeText_0 rfl (lv_at hl 1 rfl) ?_
  refine pm_callNE hF hN (c_B_isType l t) k_B_isType j_P_35 ⟨Nat.le_of_ble_eq_true rfl, Nat.le_of_ble_eq_true rfl⟩ rfl hl.1 (Nat.le_of_ble_eq_true rfl) d_P_writeText_1 ⟨by first | exact Nat.le_of_ble_eq_true rfl | (dsimp only; omega) | omega | exact Nat.zero_le _, by first | exact Nat.le_of_ble_eq_true rfl | (dsimp only; omega) | omega | exact Nat.zero_le _⟩ ?_
  refine lv_if_eq (tgt := 17) hx hb d_P_writeText_4 (by decide) (fun c_2 => ?_) (fun c_2 => ?_)
  · skip
    refine lv_iconst (v := (-1)) hx hb d_P_writeText_17 (by decide) ?_
    have e : f_P_writeText t wh = (-1) := by rw [f_P_writeText, if_pos c_2]
    exact ret_i hx hb hr hlk (hP.sub (ws' := [(p0, .inr (0, [.ref ha, .ref s0, .ref q0])), (s0, .inr (1, [.ref b])), (b, .inr (3, [.ref v, .int 0, .int ml, .int (nI xs.length)])), (v, .inl (gB g, cp, .inl a))]) [0, 1, 2, 3] rfl) (hD.sub (ws' := [(p0, .inr (0, [.ref ha, .ref s0, .ref q0])), (s0, .inr (1, [.ref b])), (b, .inr (3, [.ref v, .int 0, .int ml, .int (nI xs.length)])), (v, .inl (gB g, cp, .inl a))]) [0, 1, 2, 3] rfl rfl) hS (nar_i _) ⟨xs, _, _, _, _, rfl, ht, e.symm, fun h => absurd (by rw [e] at h; exact h) (by decide)⟩ (by first | exact Nat.le_of_ble_eq_true rfl | (dsimp only; omega) | omega) (by first | exact Nat.le_of_ble_eq_true rfl | (dsimp only; omega) | omega) d_P_writeText_18
  · skip
    refine lv_iload_n hx hb d_P_writeText_7 rfl (lv_at hl 2 rfl) ?_
    refine lv_if_lt (tgt := 17) hx hb d_P_writeText_8 (by decide) (fun c_3 => ?_) (fun c_3 => ?_)
    · skip
      refine lv_iconst (v := (-1)) hx hb d_P_writeText_17 (by decide) ?_
      have e : f_P_writeText t wh = (-1) := by rw [f_P_writeText, if_neg c_2, if_pos c_3]
      exact ret_i hx hb hr hlk (hP.sub (ws' := [(p0, .inr (0, [.ref ha, .ref s0, .ref q0])), (s0, .inr (1, [.ref b])), (b, .inr (3, [.ref v, .int 0, .int ml, .int (nI xs.length)])), (v, .inl (gB g, cp, .inl a))]) [0, 1, 2, 3] rfl) (hD.sub (ws' := [(p0, .inr (0, [.ref ha, .ref s0, .ref q0])), (s0, .inr (1, [.ref b])), (b, .inr (3, [.ref v, .int 0, .int ml, .int (nI xs.length)])), (v, .inl (gB g, cp, .inl a))]) [0, 1, 2, 3] rfl rfl) hS (nar_i _) ⟨xs, _, _, _, _, rfl, ht, e.symm, fun h => absurd (by rw [e] at h; exact h) (by decide)⟩ (by first | exact Nat.le_of_ble_eq_true rfl | (dsimp only; omega) | omega) (by first | exact Nat.le_of_ble_eq_true rfl | (dsimp only; omega) | omega) d_P_writeText_18
    · skip
      refine lv_iload_n hx hb d_P_writeText_11 rfl (lv_at hl 2 rfl) ?_
      refine lv_bipush (v := 7) hx hb d_P_writeText_12 (by decide) ?_
      refine lv_icmp_le (tgt := 19) hx hb d_P_writeText_14 (by decide) (fun c_4 => ?_) (fun c_4 => ?_)
      · skip
        refine lv_aload_n hx hb d_P_writeText_19 rfl (lv_at hl 0 rfl) ?_
        refine va_get (D := gD g) (ci := 0) (v := .ref s0) (C := R_P) (T := F_P) (N := 3) hx hb hF.2.2.2.2 in_P hF.2.2.2.1 hK hP 0 rfl rfl 1 (by decide) (hF.2.2.2.2 _ fl_P_16) (fun _ h9 => h9) rfl d_P_writeText_20 ?_
        refine lv_iload_n hx hb d_P_writeText_23 rfl (lv_at hl 1 rfl) ?_
        refine lv_iload_n hx hb d_P_writeText_24 rfl (lv_at hl 2 rfl) ?_
        have hbp := b_pj c_2
        refine go_i (wr := [(p0, .inr (0, [.ref ha, .ref s0, .ref q0]))]) (run_VN hF G.1 (c_S_write g l _ s0 b v cp ml a xs ht t wh (f_B_plain t).toNatClampNeg hbp.2.2 hbp.1 hbp.2.1) k_S_write j_P_115 se_S_S_write (va_recv hK hP (ci := 1) (q0 := 1) rfl rfl) (cw_down G hP hD hS hA [1, 2, 3] rfl rfl) ⟨Nat.le_of_ble_eq_true rfl, Nat.le_of_ble_eq_true rfl⟩ rfl hl.1 (Nat.le_of_ble_eq_true rfl) d_P_writeText_25 ⟨(by first | exact Nat.le_of_ble_eq_true rfl | (dsimp only; omega) | omega), (by first | exact Nat.le_of_ble_eq_true rfl | (dsimp only; omega) | omega)⟩) hP hD hS hA [1, 2, 3] [0] rfl rfl rfl (by decide) (fun r_5 w1 H locs hp hP hD hS => ?_)
        obtain ⟨v_6, cp_6, ml_6, f_6, rfl, ht_6, rfl⟩ := hp
        have hP : va_P (gD g) classes [(p0, .inr (0, [.ref ha, .ref s0, .ref q0])), (s0, .inr (1, [.ref b])), (b, .inr (3, [.ref v_6, .int 0, .int ml_6, .int (nI (zf_S_write t (f_B_plain t).toNatClampNeg wh).1.length)])), (v_6, .inl (gB g, cp_6, .inl f_6))] H := hP
        have hD : va_D A [(p0, .inr (0, [.ref ha, .ref s0, .ref q0])), (s0, .inr (1, [.ref b])), (b, .inr (3, [.ref v_6, .int 0, .int ml_6, .int (nI (zf_S_write t (f_B_plain t).toNatClampNeg wh).1.length)])), (v_6, .inl (gB g, cp_6, .inl f_6))] := hD
        refine lv_if_eq (tgt := 41) hx hb d_P_writeText_28 (by decide) (fun c_7 => ?_) (fun c_7 => ?_)
        · skip
          refine lv_bipush (v := (-2)) hx hb d_P_writeText_41 (by decide) ?_
          have e : f_P_writeText t wh = (-2) := by rw [f_P_writeText, if_neg c_2, if_neg c_3, if_pos c_4, if_pos c_7]
          exact ret_i hx hb hr hlk (hP.sub (ws' := [(p0, .inr (0, [.ref ha, .ref s0, .ref q0])), (s0, .inr (1, [.ref b])), (b, .inr (3, [.ref v_6, .int 0, .int ml_6, .int (nI (zf_S_write t (f_B_plain t).toNatClampNeg wh).1.length)])), (v_6, .inl (gB g, cp_6, .inl f_6))]) [0, 1, 2, 3] rfl) (hD.sub (ws' := [(p0, .inr (0, [.ref ha, .ref s0, .ref q0])), (s0, .inr (1, [.ref b])), (b, .inr (3, [.ref v_6, .int 0, .int ml_6, .int (nI (zf_S_write t (f_B_plain t).toNatClampNeg wh).1.length)])), (v_6, .inl (gB g, cp_6, .inl f_6))]) [0, 1, 2, 3] rfl rfl) hS (nar_i _) ⟨(zf_S_write t (f_B_plain t).toNatClampNeg wh).1, _, _, _, _, rfl, ht_6, e.symm, fun h => absurd (by rw [e] at h; exact h) (by decide)⟩ (by first | exact Nat.le_of_ble_eq_true rfl | (dsimp only; omega) | omega) (by first | exact Nat.le_of_ble_eq_true rfl | (dsimp only; omega) | omega) d_P_writeText_43
        · skip
          refine lv_aload_n hx hb d_P_writeText_31 rfl (lv_at hl 0 rfl) ?_
          refine va_get (D := gD g) (ci := 0) (v := .ref s0) (C := R_P) (T := F_P) (N := 3) hx hb hF.2.2.2.2 in_P hF.2.2.2.1 hK hP 0 rfl rfl 1 (by decide) (hF.2.2.2.2 _ fl_P_16) (fun _ h9 => h9) rfl d_P_writeText_32 ?_
          refine go_i (wr := [(p0, .inr (0, [.ref ha, .ref s0, .ref q0]))]) (run_VN hF G.1 (c_S_length g l _ s0 b v_6 cp_6 ml_6 f_6 (zf_S_write t (f_B_plain t).toNatClampNeg wh).1 ht_6) k_S_length j_P_118 se_S_S_length (va_recv hK hP (ci := 1) (q0 := 1) rfl rfl) (cw_down G hP hD hS hA [1, 2, 3] rfl rfl) ⟨Nat.le_of_ble_eq_true rfl, Nat.le_of_ble_eq_true rfl⟩ rfl hl.1 (Nat.le_of_ble_eq_true rfl) d_P_writeText_35 ⟨(by first | exact Nat.le_of_ble_eq_true rfl | (dsimp only; omega) | omega), (by first | exact Nat.le_of_ble_eq_true rfl | (dsimp only; omega) | omega)⟩) hP hD hS hA [1, 2, 3] [0] rfl rfl rfl (by decide) (fun r_8 w1 H locs hp hP hD hS => ?_)
          obtain ⟨rfl, rfl⟩ := hp
          have hP : va_P (gD g) classes [(p0, .inr (0, [.ref ha, .ref s0, .ref q0])), (s0, .inr (1, [.ref b])), (b, .inr (3, [.ref v_6, .int 0, .int ml_6, .int (nI (zf_S_write t (f_B_plain t).toNatClampNeg wh).1.length)])), (v_6, .inl (gB g, cp_6, .inl f_6))] H := hP
          have hD : va_D A [(p0, .inr (0, [.ref ha, .ref s0, .ref q0])), (s0, .inr (1, [.ref b])), (b, .inr (3, [.ref v_6, .int 0, .int ml_6, .int (nI (zf_S_write t (f_B_plain t).toNatClampNeg wh).1.length)])), (v_6, .inl (gB g, cp_6, .inl f_6))] := hD
          refine lv_goto (tgt := 43) hx hb d_P_writeText_38 (by decide) ?_
          have e : f_P_writeText t wh = (nI (zf_S_write t (f_B_plain t).toNatClampNeg wh).1.length) := by rw [f_P_writeText, if_neg c_2, if_neg c_3, if_pos c_4, if_neg c_7]
          exact ret_i hx hb hr hlk (hP.sub (ws' := [(p0, .inr (0, [.ref ha, .ref s0, .ref q0])), (s0, .inr (1, [.ref b])), (b, .inr (3, [.ref v_6, .int 0, .int ml_6, .int (nI (zf_S_write t (f_B_plain t).toNatClampNeg wh).1.length)])), (v_6, .inl (gB g, cp_6, .inl f_6))]) [0, 1, 2, 3] rfl) (hD.sub (ws' := [(p0, .inr (0, [.ref ha, .ref s0, .ref q0])), (s0, .inr (1, [.ref b])), (b, .inr (3, [.ref v_6, .int 0, .int ml_6, .int (nI (zf_S_write t (f_B_plain t).toNatClampNeg wh).1.length)])), (v_6, .inl (gB g, cp_6, .inl f_6))]) [0, 1, 2, 3] rfl rfl) hS (nar_i _) ⟨(zf_S_write t (f_B_plain t).toNatClampNeg wh).1, _, _, _, _, rfl, ht_6, e.symm, fun _ => ⟨rfl, e⟩⟩ (by first | exact Nat.le_of_ble_eq_true rfl | (dsimp only; omega) | omega) (by first | exact Nat.le_of_ble_eq_true rfl | (dsimp only; omega) | omega) d_P_writeText_43
      · skip
        refine lv_iconst (v := (-1)) hx hb d_P_writeText_17 (by decide) ?_
        have e : f_P_writeText t wh = (-1) := by rw [f_P_writeText, if_neg c_2, if_neg c_3, if_neg c_4]
        exact ret_i hx hb hr hlk (hP.sub (ws' := [(p0, .inr (0, [.ref ha, .ref s0, .ref q0])), (s0, .inr (1, [.ref b])), (b, .inr (3, [.ref v, .int 0, .int ml, .int (nI xs.length)])), (v, .inl (gB g, cp, .inl a))]) [0, 1, 2, 3] rfl) (hD.sub (ws' := [(p0, .inr (0, [.ref ha, .ref s0, .ref q0])), (s0, .inr (1, [.ref b])), (b, .inr (3, [.ref v, .int 0, .int ml, .int (nI xs.length)])), (v, .inl (gB g, cp, .inl a))]) [0, 1, 2, 3] rfl rfl) hS (nar_i _) ⟨xs, _, _, _, _, rfl, ht, e.symm, fun h => absurd (by rw [e] at h; exact h) (by decide)⟩ (by first | exact Nat.le_of_ble_eq_true rfl | (dsimp only; omega) | omega) (by first | exact Nat.le_of_ble_eq_true rfl | (dsimp only; omega) | omega) d_P_writeText_18
set_option maxRecDepth 100000 in
theorem k_P_size : ck y_P_size b_P_size 3 (some .int) 2 (.instanceMethod y_P_size) := ⟨tk_of (List.mem_of_getElem? (i := 453) rfl) rfl, tk_of (List.mem_of_getElem? (i := 451) (by decide +kernel)) rfl, tk_of (List.mem_of_getElem? (i := 36) (by decide +kernel)) rfl, by decide +kernel⟩
theorem j_P_27 : Cond.methodLink R_P 27 y_P_writeText ∈ tk := tk_of (List.mem_of_getElem? (i := 129) (by decide +kernel)) rfl
theorem se_P_P_writeText : Cond.selects R_P y_P_writeText y_P_writeText ∈ tk := tk_of (List.mem_of_getElem? (i := 0) (by decide +kernel)) rfl
set_option maxHeartbeats 4000000 in
set_option maxRecDepth 100000 in
theorem c_P_size (g : gT) (l : Launch) (sz : Nat) (p0 ha q0 : Nat) (s0 b v cp : Nat) (ml : Int32) (a : Nat → Int32) (xs : List Nat) (ht : tx xs cp a) (t wh : Int32) : Mg g l y_P_size b_P_size 3 (some .int) 11 260 60 2200 [.ref p0, .int t, .int wh] [(p0, .inr (0, [.ref ha, .ref s0, .ref q0])), (s0, .inr (1, [.ref b])), (b, .inr (3, [.ref v, .int 0, .int ml, .int (nI xs.length)])), (v, .inl (gB g, cp, .inl a))] sz (qI g (fun r w1 => ∃ (L : List Nat) (v' cp' : Nat) (ml' : Int32) (f : Nat → Int32), w1 = [(p0, .inr (0, [.ref ha, .ref s0, .ref q0])), (s0, .inr (1, [.ref b])), (b, .inr (3, [.ref v', .int 0, .int ml', .int (nI L.length)])), (v', .inl (gB g, cp', .inl f))] ∧ tx L cp' f ∧ r = (f_P_writeText t wh))) := by
  refine mg_of (by decide) (Nat.le_of_ble_eq_true rfl) ?_
  intro p e s m below meth c ls A hx hb hF hr hlk hnm hA G hP hD hS hl
  have hK := G.2.1
  have hN := G.1
  have hl : lv_has ls 3 [(0, .ref p0), (1, .int t), (2, .int wh)] := hl
  refine lv_aload_n hx hb d_P_size_0 rfl (lv_at hl 0 rfl) ?_
  refine lv_iload_n hx hb d_P_size_1 rfl (lv_at hl 1 rfl) ?_
  refine lv_iload_n hx hb d_P_size_2 rfl (lv_at hl 2 rfl) ?_
  refine go_i (wr := []) (run_V hF (c_P_writeText g l _ p0 ha q0 s0 b v cp ml a xs ht t wh) k_P_writeText j_P_27 se_P_P_writeText (va_recv hK hP (ci := 0) (q0 := 0) rfl rfl) (cw_down G hP hD hS hA [0, 1, 2, 3] rfl rfl) ⟨Nat.le_of_ble_eq_true rfl, Nat.le_of_ble_eq_true rfl⟩ rfl hl.1 (Nat.le_of_ble_eq_true rfl) d_P_size_3 ⟨(by first | exact Nat.le_of_ble_eq_true rfl | (dsimp only; omega) | omega), (by first | exact Nat.le_of_ble_eq_true rfl | (dsimp only; omega) | omega)⟩) hP hD hS hA [0, 1, 2, 3] [] rfl rfl rfl (by decide) (fun r_1 w1 H locs hp hP hD hS => ?_)
  obtain ⟨L_2, v_2, cp_2, ml_2, f_2, rfl, ht_2, rfl, hw_2⟩ := hp
  have hP : va_P (gD g) classes [(p0, .inr (0, [.ref ha, .ref s0, .ref q0])), (s0, .inr (1, [.ref b])), (b, .inr (3, [.ref v_2, .int 0, .int ml_2, .int (nI L_2.length)])), (v_2, .inl (gB g, cp_2, .inl f_2))] H := hP
  have hD : va_D A [(p0, .inr (0, [.ref ha, .ref s0, .ref q0])), (s0, .inr (1, [.ref b])), (b, .inr (3, [.ref v_2, .int 0, .int ml_2, .int (nI L_2.length)])), (v_2, .inl (gB g, cp_2, .inl f_2))] := hD
  exact ret_i hx hb hr hlk (hP.sub (ws' := [(p0, .inr (0, [.ref ha, .ref s0, .ref q0])), (s0, .inr (1, [.ref b])), (b, .inr (3, [.ref v_2, .int 0, .int ml_2, .int (nI L_2.length)])), (v_2, .inl (gB g, cp_2, .inl f_2))]) [0, 1, 2, 3] rfl) (hD.sub (ws' := [(p0, .inr (0, [.ref ha, .ref s0, .ref q0])), (s0, .inr (1, [.ref b])), (b, .inr (3, [.ref v_2, .int 0, .int ml_2, .int (nI L_2.length)])), (v_2, .inl (gB g, cp_2, .inl f_2))]) [0, 1, 2, 3] rfl rfl) hS (nar_i _) ⟨L_2, _, _, _, _, rfl, ht_2, rfl⟩ (by first | exact Nat.le_of_ble_eq_true rfl | (dsimp only; omega) | omega) (by first | exact Nat.le_of_ble_eq_true rfl | (dsimp only; omega) | omega) d_P_size_6
theorem p_ix {i : Int32} {L : List Nat} {cp : Nat} {a : Nat → Int32} (h0 : ¬ i < 0) (h1 : ¬ nI L.length ≤ i) (ht : tx L cp a) : i.toNatClampNeg < L.length := by
  have h2 := ht.1
  have h3 := ht.2.2.1
  obtain ⟨j, hj, rfl⟩ := nI_of h0
  rw [nI_clamp hj]
  rcases Nat.lt_or_ge j L.length with q | q
  · exact q
  · exact absurd (nI_le q hj) h1
def f_P_letter (t wh i : Int32) : Int32 := (if 0 ≤ (f_P_writeText t wh) then (if i < 0 then 0 else (if (f_P_writeText t wh) ≤ i then 0 else (nI ((zf_S_write t (f_B_plain t).toNatClampNeg wh).1.getD i.toNatClampNeg 0)))) else (f_P_writeText t wh))
set_option maxRecDepth 100000 in
theorem k_P_letter : ck y_P_letter b_P_letter 5 (some .int) 3 (.instanceMethod y_P_letter) := ⟨tk_of (List.mem_of_getElem? (i := 128) rfl) rfl, tk_of (List.mem_of_getElem? (i := 126) (by decide +kernel)) rfl, tk_of (List.mem_of_getElem? (i := 36) (by decide +kernel)) rfl, by decide +kernel⟩
theorem j_P_31 : Cond.methodLinkNest R_P 31 y_S_codeAt R_P ∈ nw_l := nw_of (List.mem_of_getElem? (i := 436) (by decide +kernel)) rfl
theorem se_S_S_codeAt : Cond.selects R_S y_S_codeAt y_S_codeAt ∈ tk := tk_of (List.mem_of_getElem? (i := 11) (by decide +kernel)) rfl
set_option maxHeartbeats 4000000 in
set_option maxRecDepth 100000 in
theorem c_P_letter (g : gT) (l : Launch) (sz : Nat) (p0 ha q0 : Nat) (s0 b v cp : Nat) (ml : Int32) (a : Nat → Int32) (xs : List Nat) (ht : tx xs cp a) (t wh i : Int32) : Mg g l y_P_letter b_P_letter 5 (some .int) 11 260 60 2200 [.ref p0, .int t, .int wh, .int i] [(p0, .inr (0, [.ref ha, .ref s0, .ref q0])), (s0, .inr (1, [.ref b])), (b, .inr (3, [.ref v, .int 0, .int ml, .int (nI xs.length)])), (v, .inl (gB g, cp, .inl a))] sz (qI g (fun r w1 => ∃ (L : List Nat) (v' cp' : Nat) (ml' : Int32) (f : Nat → Int32), w1 = [(p0, .inr (0, [.ref ha, .ref s0, .ref q0])), (s0, .inr (1, [.ref b])), (b, .inr (3, [.ref v', .int 0, .int ml', .int (nI L.length)])), (v', .inl (gB g, cp', .inl f))] ∧ tx L cp' f ∧ r = f_P_letter t wh i)) := by
  refine mg_of (by decide) (Nat.le_of_ble_eq_true rfl) ?_
  intro p e s m below meth c ls A hx hb hF hr hlk hnm hA G hP hD hS hl
  have hK := G.2.1
  have hN := G.1
  have hl : lv_has ls 5 [(0, .ref p0), (1, .int t), (2, .int wh), (3, .int i)] := hl
  refine lv_aload_n hx hb d_P_letter_0 rfl (lv_at hl 0 rfl) ?_
  refine lv_iload_n hx hb d_P_letter_1 rfl (lv_at hl 1 rfl) ?_
  refine lv_iload_n hx hb d_P_letter_2 rfl (lv_at hl 2 rfl) ?_
  refine go_i (wr := []) (run_V hF (c_P_writeText g l _ p0 ha q0 s0 b v cp ml a xs ht t wh) k_P_writeText j_P_27 se_P_P_writeText (va_recv hK hP (ci := 0) (q0 := 0) rfl rfl) (cw_down G hP hD hS hA [0, 1, 2, 3] rfl rfl) ⟨Nat.le_of_ble_eq_true rfl, Nat.le_of_ble_eq_true rfl⟩ rfl hl.1 (Nat.le_of_ble_eq_true rfl) d_P_letter_3 ⟨(by first | exact Nat.le_of_ble_eq_true rfl | (dsimp only; omega) | omega), (by first | exact Nat.le_of_ble_eq_true rfl | (dsimp only; omega) | omega)⟩) hP hD hS hA [0, 1, 2, 3] [] rfl rfl rfl (by decide) (fun r_1 w1 H locs hp hP hD hS => ?_)
  obtain ⟨L_2, v_2, cp_2, ml_2, f_2, rfl, ht_2, rfl, hw_2⟩ := hp
  have hP : va_P (gD g) classes [(p0, .inr (0, [.ref ha, .ref s0, .ref q0])), (s0, .inr (1, [.ref b])), (b, .inr (3, [.ref v_2, .int 0, .int ml_2, .int (nI L_2.length)])), (v_2, .inl (gB g, cp_2, .inl f_2))] H := hP
  have hD : va_D A [(p0, .inr (0, [.ref ha, .ref s0, .ref q0])), (s0, .inr (1, [.ref b])), (b, .inr (3, [.ref v_2, .int 0, .int ml_2, .int (nI L_2.length)])), (v_2, .inl (gB g, cp_2, .inl f_2))] := hD
  refine lv_istore (lv' := [(4, .int (f_P_writeText t wh)), (0, .ref p0), (1, .int t), (2, .int wh), (3, .int i)]) hx hb d_P_letter_6 hl (by decide) rfl (fun ls hl => ?_)
  refine lv_iload hx hb d_P_letter_8 (lv_at hl 0 rfl) ?_
  refine lv_if_ge (tgt := 16) hx hb d_P_letter_10 (by decide) (fun c_3 => ?_) (fun c_3 => ?_)
  · skip
    refine lv_iload_n hx hb d_P_letter_16 rfl (lv_at hl 4 rfl) ?_
    refine lv_if_lt (tgt := 37) hx hb d_P_letter_17 (by decide) (fun c_4 => ?_) (fun c_4 => ?_)
    · skip
      refine lv_iconst (v := 0) hx hb d_P_letter_37 (by decide) ?_
      have e9 : f_P_letter t wh i = 0 := by rw [f_P_letter, if_pos c_3, if_pos c_4]
      exact ret_i hx hb hr hlk (hP.sub (ws' := [(p0, .inr (0, [.ref ha, .ref s0, .ref q0])), (s0, .inr (1, [.ref b])), (b, .inr (3, [.ref v_2, .int 0, .int ml_2, .int (nI L_2.length)])), (v_2, .inl (gB g, cp_2, .inl f_2))]) [0, 1, 2, 3] rfl) (hD.sub (ws' := [(p0, .inr (0, [.ref ha, .ref s0, .ref q0])), (s0, .inr (1, [.ref b])), (b, .inr (3, [.ref v_2, .int 0, .int ml_2, .int (nI L_2.length)])), (v_2, .inl (gB g, cp_2, .inl f_2))]) [0, 1, 2, 3] rfl rfl) hS (nar_i _) ⟨L_2, _, _, _, _, rfl, ht_2, e9.symm⟩ (by first | exact Nat.le_of_ble_eq_true rfl | (dsimp only; omega) | omega) (by first | exact Nat.le_of_ble_eq_true rfl | (dsimp only; omega) | omega) d_P_letter_38
    · skip
      refine lv_iload_n hx hb d_P_letter_20 rfl (lv_at hl 4 rfl) ?_
      refine lv_iload hx hb d_P_letter_21 (lv_at hl 0 rfl) ?_
      refine lv_icmp_ge (tgt := 37) hx hb d_P_letter_23 (by decide) (fun c_5 => ?_) (fun c_5 => ?_)
      · skip
        refine lv_iconst (v := 0) hx hb d_P_letter_37 (by decide) ?_
        have e9 : f_P_letter t wh i = 0 := by rw [f_P_letter, if_pos c_3, if_neg c_4, if_pos c_5]
        exact ret_i hx hb hr hlk (hP.sub (ws' := [(p0, .inr (0, [.ref ha, .ref s0, .ref q0])), (s0, .inr (1, [.ref b])), (b, .inr (3, [.ref v_2, .int 0, .int ml_2, .int (nI L_2.length)])), (v_2, .inl (gB g, cp_2, .inl f_2))]) [0, 1, 2, 3] rfl) (hD.sub (ws' := [(p0, .inr (0, [.ref ha, .ref s0, .ref q0])), (s0, .inr (1, [.ref b])), (b, .inr (3, [.ref v_2, .int 0, .int ml_2, .int (nI L_2.length)])), (v_2, .inl (gB g, cp_2, .inl f_2))]) [0, 1, 2, 3] rfl rfl) hS (nar_i _) ⟨L_2, _, _, _, _, rfl, ht_2, e9.symm⟩ (by first | exact Nat.le_of_ble_eq_true rfl | (dsimp only; omega) | omega) (by first | exact Nat.le_of_ble_eq_true rfl | (dsimp only; omega) | omega) d_P_letter_38
      · skip
        refine lv_aload_n hx hb d_P_letter_26 rfl (lv_at hl 1 rfl) ?_
        refine va_get (D := gD g) (ci := 0) (v := .ref s0) (C := R_P) (T := F_P) (N := 3) hx hb hF.2.2.2.2 in_P hF.2.2.2.1 hK hP 0 rfl rfl 1 (by decide) (hF.2.2.2.2 _ fl_P_16) (fun _ h9 => h9) rfl d_P_letter_27 ?_
        refine lv_iload_n hx hb d_P_letter_30 rfl (lv_at hl 4 rfl) ?_
        refine tp_i (nI_self c_4) ?_
        have hlw := hw_2 c_3
        have hix := p_ix c_4 (by rw [hlw.2] at c_5; exact c_5) ht_2
        refine go_i (wr := [(p0, .inr (0, [.ref ha, .ref s0, .ref q0]))]) (run_VN hF G.1 (c_S_codeAt g l _ s0 b v_2 cp_2 ml_2 f_2 L_2 ht_2 i.toNatClampNeg hix) k_S_codeAt j_P_31 se_S_S_codeAt (va_recv hK hP (ci := 1) (q0 := 1) rfl rfl) (cw_down G hP hD hS hA [1, 2, 3] rfl rfl) ⟨Nat.le_of_ble_eq_true rfl, Nat.le_of_ble_eq_true rfl⟩ rfl hl.1 (Nat.le_of_ble_eq_true rfl) d_P_letter_31 ⟨(by first | exact Nat.le_of_ble_eq_true rfl | (dsimp only; omega) | omega), (by first | exact Nat.le_of_ble_eq_true rfl | (dsimp only; omega) | omega)⟩) hP hD hS hA [1, 2, 3] [0] rfl rfl rfl (by decide) (fun r_6 w1 H locs hp hP hD hS => ?_)
        obtain ⟨rfl, rfl⟩ := hp
        have hP : va_P (gD g) classes [(p0, .inr (0, [.ref ha, .ref s0, .ref q0])), (s0, .inr (1, [.ref b])), (b, .inr (3, [.ref v_2, .int 0, .int ml_2, .int (nI L_2.length)])), (v_2, .inl (gB g, cp_2, .inl f_2))] H := hP
        have hD : va_D A [(p0, .inr (0, [.ref ha, .ref s0, .ref q0])), (s0, .inr (1, [.ref b])), (b, .inr (3, [.ref v_2, .int 0, .int ml_2, .int (nI L_2.length)])), (v_2, .inl (gB g, cp_2, .inl f_2))] := hD
        refine lv_goto (tgt := 38) hx hb d_P_letter_34 (by decide) ?_
        have e9 : f_P_letter t wh i = (nI (L_2.getD i.toNatClampNeg 0)) := by rw [f_P_letter, if_pos c_3, if_neg c_4, if_neg c_5, ← hlw.1]
        exact ret_i hx hb hr hlk (hP.sub (ws' := [(p0, .inr (0, [.ref ha, .ref s0, .ref q0])), (s0, .inr (1, [.ref b])), (b, .inr (3, [.ref v_2, .int 0, .int ml_2, .int (nI L_2.length)])), (v_2, .inl (gB g, cp_2, .inl f_2))]) [0, 1, 2, 3] rfl) (hD.sub (ws' := [(p0, .inr (0, [.ref ha, .ref s0, .ref q0])), (s0, .inr (1, [.ref b])), (b, .inr (3, [.ref v_2, .int 0, .int ml_2, .int (nI L_2.length)])), (v_2, .inl (gB g, cp_2, .inl f_2))]) [0, 1, 2, 3] rfl rfl) hS (nar_i _) ⟨L_2, _, _, _, _, rfl, ht_2, e9.symm⟩ (by first | exact Nat.le_of_ble_eq_true rfl | (dsimp only; omega) | omega) (by first | exact Nat.le_of_ble_eq_true rfl | (dsimp only; omega) | omega) d_P_letter_38
  · skip
    refine lv_iload hx hb d_P_letter_13 (lv_at hl 0 rfl) ?_
    have e9 : f_P_letter t wh i = (f_P_writeText t wh) := by rw [f_P_letter, if_neg c_3]
    exact ret_i hx hb hr hlk (hP.sub (ws' := [(p0, .inr (0, [.ref ha, .ref s0, .ref q0])), (s0, .inr (1, [.ref b])), (b, .inr (3, [.ref v_2, .int 0, .int ml_2, .int (nI L_2.length)])), (v_2, .inl (gB g, cp_2, .inl f_2))]) [0, 1, 2, 3] rfl) (hD.sub (ws' := [(p0, .inr (0, [.ref ha, .ref s0, .ref q0])), (s0, .inr (1, [.ref b])), (b, .inr (3, [.ref v_2, .int 0, .int ml_2, .int (nI L_2.length)])), (v_2, .inl (gB g, cp_2, .inl f_2))]) [0, 1, 2, 3] rfl rfl) hS (nar_i _) ⟨L_2, _, _, _, _, rfl, ht_2, e9.symm⟩ (by first | exact Nat.le_of_ble_eq_true rfl | (dsimp only; omega) | omega) (by first | exact Nat.le_of_ble_eq_true rfl | (dsimp only; omega) | omega) d_P_letter_15
