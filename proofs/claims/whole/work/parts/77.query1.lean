theorem q_ch {c : Int32} (h0 : ¬ c < 33) (h1 : c ≤ 126) : c = nI c.toNatClampNeg ∧ c.toNatClampNeg < 128 ∧ (c.toUInt32 % 65536).toInt32 = nI c.toNatClampNeg := by
  have h2 : ¬ c < 0 := fun q => h0 (Int32.lt_trans q (by decide))
  obtain ⟨j, hj, rfl⟩ := nI_of2 (M := 126) (n := 126) (by decide) h2 h1
  rw [nI_clamp (by omega)]
  exact ⟨rfl, by omega, (j_b7 j (by omega)).2.2.2.2.2⟩
def zt_Q_add (xs : List Nat) (ch : Int32) : List Nat × Int32 := (if ch < 33 then (xs, ((-1) : Int32)) else (if ch ≤ 126 then (if (nI xs.length) < 40 then ((xs ++ [ch.toNatClampNeg]), ((nI (xs ++ [ch.toNatClampNeg]).length) : Int32)) else (xs, ((-6) : Int32))) else (xs, ((-1) : Int32))))
set_option maxRecDepth 100000 in
theorem k_Q_add : ck y_Q_add b_Q_add 2 (some .int) 1 (.instanceMethod y_Q_add) := ⟨tk_of (List.mem_of_getElem? (i := 537) rfl) rfl, tk_of (List.mem_of_getElem? (i := 536) (by decide +kernel)) rfl, tk_of (List.mem_of_getElem? (i := 42) (by decide +kernel)) rfl, by decide +kernel⟩
theorem fl_Q_12 : Cond.fieldLink R_Q 12 R_Q "text" "Ljava/lang/StringBuilder;" ∈ tk := tk_of (List.mem_of_getElem? (i := 111) (by decide +kernel)) rfl
theorem j_Q_18 : Cond.methodLink R_Q 18 y_SB_length ∈ tk := tk_of (List.mem_of_getElem? (i := 538) (by decide +kernel)) rfl
theorem j_Q_26 : Cond.methodLink R_Q 26 y_SB_append_C ∈ tk := tk_of (List.mem_of_getElem? (i := 539) (by decide +kernel)) rfl
set_option maxHeartbeats 4000000 in
set_option maxRecDepth 100000 in
theorem c_Q_add (g : gT) (l : Launch) (sz : Nat) (q0 b v cp : Nat) (ml : Int32) (a : Nat → Int32) (xs : List Nat) (ht : tx xs cp a) (ch : Int32) (hx40 : xs.length ≤ 40) : Mg g l y_Q_add b_Q_add 2 (some .int) 6 146 7 252 [.ref q0, .int ch] [(q0, .inr (2, [.ref b])), (b, .inr (3, [.ref v, .int 0, .int ml, .int (nI xs.length)])), (v, .inl (gB g, cp, .inl a))] sz (qI g (fun r w1 => ∃ (v' cp' : Nat) (ml' : Int32) (f : Nat → Int32), w1 = [(q0, .inr (2, [.ref b])), (b, .inr (3, [.ref v', .int 0, .int ml', .int (nI (zt_Q_add xs ch).1.length)])), (v', .inl (gB g, cp', .inl f))] ∧ tx (zt_Q_add xs ch).1 cp' f ∧ (zt_Q_add xs ch).1.length ≤ 40 ∧ r = (zt_Q_add xs ch).2)) := by
  refine mg_of (by decide) (Nat.le_of_ble_eq_true rfl) ?_
  intro p e s m below meth c ls A hx hb hF hr hlk hnm hA G hP hD hS hl
  have hK := G.2.1
  have hN := G.1
  have hl : lv_has ls 2 [(0, .ref q0), (1, .int ch)] := hl
  have ht1 := ht.1
  have ht2 := ht.2.1
  have ht3 := ht.2.2.1
  refine lv_iload_n hx hb d_Q_add_0 rfl (lv_at hl 1 rfl) ?_
  refine lv_bipush (v := 33) hx hb d_Q_add_1 (by decide) ?_
  refine lv_icmp_lt (tgt := 12) hx hb d_Q_add_3 (by decide) (fun c_1 => ?_) (fun c_1 => ?_)
  · skip
    refine lv_iconst (v := (-1)) hx hb d_Q_add_12 (by decide) ?_
    have e9 : zt_Q_add xs ch = (xs, ((-1) : Int32)) := by rw [zt_Q_add, if_pos c_1]
    exact ret_i hx hb hr hlk (hP.sub (ws' := [(q0, .inr (2, [.ref b])), (b, .inr (3, [.ref v, .int 0, .int ml, .int (nI xs.length)])), (v, .inl (gB g, cp, .inl a))]) [0, 1, 2] rfl) (hD.sub (ws' := [(q0, .inr (2, [.ref b])), (b, .inr (3, [.ref v, .int 0, .int ml, .int (nI xs.length)])), (v, .inl (gB g, cp, .inl a))]) [0, 1, 2] rfl rfl) hS (nar_i _) ⟨_, _, _, _, by rw [e9], by rw [e9]; exact ht, by rw [e9]; dsimp only; omega, by rw [e9]⟩ (by first | exact Nat.le_of_ble_eq_true rfl | (dsimp only; omega) | omega) (by first | exact Nat.le_of_ble_eq_true rfl | (dsimp only; omega) | omega) d_Q_add_13
  · skip
    refine lv_iload_n hx hb d_Q_add_6 rfl (lv_at hl 1 rfl) ?_
    refine lv_bipush (v := 126) hx hb d_Q_add_7 (by decide) ?_
    refine lv_icmp_le (tgt := 14) hx hb d_Q_add_9 (by decide) (fun c_2 => ?_) (fun c_2 => ?_)
    · skip
      refine lv_aload_n hx hb d_Q_add_14 rfl (lv_at hl 0 rfl) ?_
      refine va_get (D := gD g) (ci := 2) (v := .ref b) (C := R_Q) (T := F_Q) (N := 1) hx hb hF.2.2.2.2 in_Q hF.2.2.2.1 hK hP 0 rfl rfl 0 (by decide) (hF.2.2.2.2 _ fl_Q_12) (fun _ h9 => h9) rfl d_Q_add_15 ?_
      refine go_i (wr := [(q0, .inr (2, [.ref b]))]) (run_V hF (c_SB_length g l _ b v xs.length cp ml a) k_SB_length j_Q_18 se_SB_SB_length (va_recv hK hP (ci := 3) (q0 := 1) rfl rfl) (cw_down G hP hD hS hA [1, 2] rfl rfl) ⟨Nat.le_of_ble_eq_true rfl, Nat.le_of_ble_eq_true rfl⟩ rfl hl.1 (Nat.le_of_ble_eq_true rfl) d_Q_add_18 ⟨(by first | exact Nat.le_of_ble_eq_true rfl | (dsimp only; omega) | omega), (by first | exact Nat.le_of_ble_eq_true rfl | (dsimp only; omega) | omega)⟩) hP hD hS hA [1, 2] [0] rfl rfl rfl (by decide) (fun r_3 w1 H locs hp hP hD hS => ?_)
      obtain ⟨rfl, rfl⟩ := hp
      have hP : va_P (gD g) classes [(q0, .inr (2, [.ref b])), (b, .inr (3, [.ref v, .int 0, .int ml, .int (nI xs.length)])), (v, .inl (gB g, cp, .inl a))] H := hP
      have hD : va_D A [(q0, .inr (2, [.ref b])), (b, .inr (3, [.ref v, .int 0, .int ml, .int (nI xs.length)])), (v, .inl (gB g, cp, .inl a))] := hD
      refine lv_bipush (v := 40) hx hb d_Q_add_21 (by decide) ?_
      refine lv_icmp_lt (tgt := 29) hx hb d_Q_add_23 (by decide) (fun c_4 => ?_) (fun c_4 => ?_)
      · skip
        refine lv_aload_n hx hb d_Q_add_29 rfl (lv_at hl 0 rfl) ?_
        refine va_get (D := gD g) (ci := 2) (v := .ref b) (C := R_Q) (T := F_Q) (N := 1) hx hb hF.2.2.2.2 in_Q hF.2.2.2.1 hK hP 0 rfl rfl 0 (by decide) (hF.2.2.2.2 _ fl_Q_12) (fun _ h9 => h9) rfl d_Q_add_30 ?_
        have hcc := q_ch c_1 c_2
        have hch := hcc.2.1
        refine lv_iload_n hx hb d_Q_add_33 rfl (lv_at hl 1 rfl) ?_
        refine lv_i2c hx hb d_Q_add_34 rfl ?_
        refine tp_i hcc.2.2 ?_
        have hga_5 := gc_le (xs.length + 1) cp (by omega)
        have hgb_5 := gs_le (xs.length + 1) cp
        have hgd_5 := sb_cap_gem (xs.length + 1) cp
        have hgc_5 := cap_le (xs.length + 1) cp (by omega) (by omega)
        refine go_r (wr := [(q0, .inr (2, [.ref b]))]) (run_V hF (c_SB_append_C g l _ b v cp ml a xs ht ch.toNatClampNeg hch (by omega)) k_SB_append_C j_Q_26 se_SB_SB_append_C (va_recv hK hP (ci := 3) (q0 := 1) rfl rfl) (cw_down G hP hD hS hA [1, 2] rfl rfl) ⟨Nat.le_of_ble_eq_true rfl, Nat.le_of_ble_eq_true rfl⟩ rfl hl.1 (Nat.le_of_ble_eq_true rfl) d_Q_add_35 ⟨(by first | exact Nat.le_of_ble_eq_true rfl | (dsimp only; omega) | omega), (by first | exact Nat.le_of_ble_eq_true rfl | (dsimp only; omega) | omega)⟩) hP hD hS hA [1, 2] [0] rfl rfl rfl (by decide) (fun r_6 w1 H locs hp hP hD hS => ?_)
        obtain ⟨er, v_7, f_7, rfl, ht_7⟩ := hp
        rw [er]
        have hge_8 := ht_7.2.2.1
        have hgf_8 : (xs ++ [ch.toNatClampNeg]).length = (xs.length + 1) := by rw [List.length_append]; rfl
        have hP : va_P (gD g) classes [(q0, .inr (2, [.ref b])), (b, .inr (3, [.ref v_7, .int 0, .int ml, .int (nI (xs ++ [ch.toNatClampNeg]).length)])), (v_7, .inl (gB g, (sb_cap (xs.length + 1) cp), .inl f_7))] H := hP
        have hD : va_D A [(q0, .inr (2, [.ref b])), (b, .inr (3, [.ref v_7, .int 0, .int ml, .int (nI (xs ++ [ch.toNatClampNeg]).length)])), (v_7, .inl (gB g, (sb_cap (xs.length + 1) cp), .inl f_7))] := hD
        refine lv_pop hx hb d_Q_add_38 rfl ?_
        refine lv_aload_n hx hb d_Q_add_39 rfl (lv_at hl 0 rfl) ?_
        refine va_get (D := gD g) (ci := 2) (v := .ref b) (C := R_Q) (T := F_Q) (N := 1) hx hb hF.2.2.2.2 in_Q hF.2.2.2.1 hK hP 0 rfl rfl 0 (by decide) (hF.2.2.2.2 _ fl_Q_12) (fun _ h9 => h9) rfl d_Q_add_40 ?_
        refine go_i (wr := [(q0, .inr (2, [.ref b]))]) (run_V hF (c_SB_length g l _ b v_7 (xs ++ [ch.toNatClampNeg]).length (sb_cap (xs.length + 1) cp) ml f_7) k_SB_length j_Q_18 se_SB_SB_length (va_recv hK hP (ci := 3) (q0 := 1) rfl rfl) (cw_down G hP hD hS hA [1, 2] rfl rfl) ⟨Nat.le_of_ble_eq_true rfl, Nat.le_of_ble_eq_true rfl⟩ rfl hl.1 (Nat.le_of_ble_eq_true rfl) d_Q_add_43 ⟨(by first | exact Nat.le_of_ble_eq_true rfl | (dsimp only; omega) | omega), (by first | exact Nat.le_of_ble_eq_true rfl | (dsimp only; omega) | omega)⟩) hP hD hS hA [1, 2] [0] rfl rfl rfl (by decide) (fun r_9 w1 H locs hp hP hD hS => ?_)
        obtain ⟨rfl, rfl⟩ := hp
        have hP : va_P (gD g) classes [(q0, .inr (2, [.ref b])), (b, .inr (3, [.ref v_7, .int 0, .int ml, .int (nI (xs ++ [ch.toNatClampNeg]).length)])), (v_7, .inl (gB g, (sb_cap (xs.length + 1) cp), .inl f_7))] H := hP
        have hD : va_D A [(q0, .inr (2, [.ref b])), (b, .inr (3, [.ref v_7, .int 0, .int ml, .int (nI (xs ++ [ch.toNatClampNeg]).length)])), (v_7, .inl (gB g, (sb_cap (xs.length + 1) cp), .inl f_7))] := hD
        have e9 : zt_Q_add xs ch = ((xs ++ [ch.toNatClampNeg]), ((nI (xs ++ [ch.toNatClampNeg]).length) : Int32)) := by rw [zt_Q_add, if_neg c_1, if_pos c_2, if_pos c_4]
        have h40 := (nI_ltI (a := xs.length) (b := 40) (by omega) (by decide)).mp c_4
        exact ret_i hx hb hr hlk (hP.sub (ws' := [(q0, .inr (2, [.ref b])), (b, .inr (3, [.ref v_7, .int 0, .int ml, .int (nI (xs ++ [ch.toNatClampNeg]).length)])), (v_7, .inl (gB g, (sb_cap (xs.length + 1) cp), .inl f_7))]) [0, 1, 2] rfl) (hD.sub (ws' := [(q0, .inr (2, [.ref b])), (b, .inr (3, [.ref v_7, .int 0, .int ml, .int (nI (xs ++ [ch.toNatClampNeg]).length)])), (v_7, .inl (gB g, (sb_cap (xs.length + 1) cp), .inl f_7))]) [0, 1, 2] rfl rfl) hS (nar_i _) ⟨_, _, _, _, by rw [e9], by rw [e9]; exact ht_7, by rw [e9]; dsimp only; omega, by rw [e9]⟩ (by first | exact Nat.le_of_ble_eq_true rfl | (dsimp only; omega) | omega) (by first | exact Nat.le_of_ble_eq_true rfl | (dsimp only; omega) | omega) d_Q_add_46
      · skip
        refine lv_bipush (v := (-6)) hx hb d_Q_add_26 (by decide) ?_
        have e9 : zt_Q_add xs ch = (xs, ((-6) : Int32)) := by rw [zt_Q_add, if_neg c_1, if_pos c_2, if_neg c_4]
        exact ret_i hx hb hr hlk (hP.sub (ws' := [(q0, .inr (2, [.ref b])), (b, .inr (3, [.ref v, .int 0, .int ml, .int (nI xs.length)])), (v, .inl (gB g, cp, .inl a))]) [0, 1, 2] rfl) (hD.sub (ws' := [(q0, .inr (2, [.ref b])), (b, .inr (3, [.ref v, .int 0, .int ml, .int (nI xs.length)])), (v, .inl (gB g, cp, .inl a))]) [0, 1, 2] rfl rfl) hS (nar_i _) ⟨_, _, _, _, by rw [e9], by rw [e9]; exact ht, by rw [e9]; dsimp only; omega, by rw [e9]⟩ (by first | exact Nat.le_of_ble_eq_true rfl | (dsimp only; omega) | omega) (by first | exact Nat.le_of_ble_eq_true rfl | (dsimp only; omega) | omega) d_Q_add_28
    · skip
      refine lv_iconst (v := (-1)) hx hb d_Q_add_12 (by decide) ?_
      have e9 : zt_Q_add xs ch = (xs, ((-1) : Int32)) := by rw [zt_Q_add, if_neg c_1, if_neg c_2]
      exact ret_i hx hb hr hlk (hP.sub (ws' := [(q0, .inr (2, [.ref b])), (b, .inr (3, [.ref v, .int 0, .int ml, .int (nI xs.length)])), (v, .inl (gB g, cp, .inl a))]) [0, 1, 2] rfl) (hD.sub (ws' := [(q0, .inr (2, [.ref b])), (b, .inr (3, [.ref v, .int 0, .int ml, .int (nI xs.length)])), (v, .inl (gB g, cp, .inl a))]) [0, 1, 2] rfl rfl) hS (nar_i _) ⟨_, _, _, _, by rw [e9], by rw [e9]; exact ht, by rw [e9]; dsimp only; omega, by rw [e9]⟩ (by first | exact Nat.le_of_ble_eq_true rfl | (dsimp only; omega) | omega) (by first | exact Nat.le_of_ble_eq_true rfl | (dsimp only; omega) | omega) d_Q_add_13
