def zg_S_addOwnName (i : Nat) : Nat → List Nat → List Nat
  | 0, xs => xs
  | d + 1, xs => (if (nI ((li_x i).getD ((li_x i).length - (d + 1)) 0)) = 46 then (zg_S_addOwnName i d ([] : List Nat)) else (if (nI ((li_x i).getD ((li_x i).length - (d + 1)) 0)) = 36 then (zg_S_addOwnName i d ([] : List Nat)) else (if (nI ((li_x i).getD ((li_x i).length - (d + 1)) 0)) < 48 then (zg_S_addOwnName i d (xs ++ [((li_x i).getD ((li_x i).length - (d + 1)) 0)])) else (if 57 < (nI ((li_x i).getD ((li_x i).length - (d + 1)) 0)) then (zg_S_addOwnName i d (xs ++ [((li_x i).getD ((li_x i).length - (d + 1)) 0)])) else (zg_S_addOwnName i d ([] : List Nat))))))
set_option maxRecDepth 100000 in
theorem k_S_addOwnName : ck y_S_addOwnName b_S_addOwnName 4 (none) 1 (.instanceMethod y_S_addOwnName) := ⟨tk_of (List.mem_of_getElem? (i := 380) rfl) rfl, tk_of (List.mem_of_getElem? (i := 379) (by decide +kernel)) rfl, tk_of (List.mem_of_getElem? (i := 37) (by decide +kernel)) rfl, by decide +kernel⟩
theorem j_S_26 : Cond.methodLink R_S 26 y_SB_setLength ∈ tk := tk_of (List.mem_of_getElem? (i := 146) (by decide +kernel)) rfl
theorem se_SB_SB_setLength : Cond.selects R_SB y_SB_setLength y_SB_setLength ∈ tk := tk_of (List.mem_of_getElem? (i := 148) (by decide +kernel)) rfl
set_option maxHeartbeats 4000000 in
set_option maxRecDepth 100000 in
theorem lp_S_addOwnName {p : Program} {l : Launch} {e : Env} {s : State} {m : MethodId} {args : Array Value} {below : List Frame} {meth : Method} {c : Code} {g : gT} {A : Nat → Prop} {Q : State → Prop} (s0 b : Nat) (i : Nat) (hi : i < 41) (hx : p.tables.exec = Jvm.exec) (hb : c.code = b_S_addOwnName) (hF : CallFix p m c b_S_addOwnName 4 s args tk R_S) (hA : ∀ q, s.heap.size ≤ q → A q) (G : Gx g A s s.heap) (E : List Nat)
    (hend : ∀ (v cp : Nat) (ml : Int32) (a : Nat → Int32), tx E cp a → ∀ (cells slots : Nat), 18 * cells + 16 ≤ cp → slots + 32 ≤ 2 * cp → ∀ (H : Heap) (locs : List Loc) (ls : Array Slot), va_P (gD g) classes [(s0, .inr (1, [.ref b])), (b, .inr (3, [.ref v, .int 0, .int ml, .int (nI E.length)])), (v, .inl (gB g, cp, .inl a))] H → va_D A [(s0, .inr (1, [.ref b])), (b, .inr (3, [.ref v, .int 0, .int ml, .int (nI E.length)])), (v, .inl (gB g, cp, .inl a))] → va_S A s.heap H locs → W p l e ({ frames := 6, cells := 7, slots := 252, locals := 146 }) s m args below meth c H locs cells slots Q (F0 m 66 ls [])) :
    ∀ (d : Nat) (xs : List Nat) (v cp : Nat) (ml : Int32) (a : Nat → Int32) (ht : tx xs cp a) (cells slots : Nat) (x : Int32), 18 * cells + 16 ≤ cp → slots + 32 ≤ 2 * cp → xs.length + d ≤ 70 → d ≤ (li_x i).length → x = nI ((li_x i).length - d) → zg_S_addOwnName i d xs = E → ∀ (H : Heap) (locs : List Loc), va_P (gD g) classes [(s0, .inr (1, [.ref b])), (b, .inr (3, [.ref v, .int 0, .int ml, .int (nI xs.length)])), (v, .inl (gB g, cp, .inl a))] H → va_D A [(s0, .inr (1, [.ref b])), (b, .inr (3, [.ref v, .int 0, .int ml, .int (nI xs.length)])), (v, .inl (gB g, cp, .inl a))] → va_S A s.heap H locs → ∀ ls : Array Slot, lv_has ls 4 [(2, .int x), (0, .ref s0), (1, .ref (gK g i))] → W p l e ({ frames := 6, cells := 7, slots := 252, locals := 146 }) s m args below meth c H locs cells slots Q (F0 m 2 ls []) := by
  have hK := G.2.1
  have hN := G.1
  have h21 := li_40 i hi
  have hnil : ([] : List Nat).length = 0 := rfl
  intro d
  induction d with
  | zero =>
    intro xs v cp ml a ht cells slots x hc1 hc2 hlen hd ex hp1 H locs hP hD hS ls hl
    have ht1 := ht.1
    have ht2 := ht.2.1
    have ht3 := ht.2.2.1
    have hle : nI (li_x i).length ≤ x := by rw [ex]; exact nI_le (by omega) (by omega)
    refine lv_iload_n hx hb d_S_addOwnName_2 rfl (lv_at hl 0 rfl) ?_
    refine lv_aload_n hx hb d_S_addOwnName_3 rfl (lv_at hl 2 rfl) ?_
    refine go_i (wr := [(s0, .inr (1, [.ref b])), (b, .inr (3, [.ref v, .int 0, .int ml, .int (nI xs.length)])), (v, .inl (gB g, cp, .inl a))]) (run_V hF (c_St_length g l _ i hi) k_St_length j_S_99 se_St_St_length (va_Orecv (G.2.2.2.1 i hi).1 hS) (cw_down G hP hD hS hA [] rfl rfl) ⟨Nat.le_of_ble_eq_true rfl, Nat.le_of_ble_eq_true rfl⟩ rfl hl.1 (Nat.le_of_ble_eq_true rfl) d_S_addOwnName_4 ⟨(by first | exact Nat.le_of_ble_eq_true rfl | (dsimp only; omega) | omega), (by first | exact Nat.le_of_ble_eq_true rfl | (dsimp only; omega) | omega)⟩) hP hD hS hA [] [0, 1, 2] rfl rfl rfl (by decide) (fun r_1 w1 H locs hp hP hD hS => ?_)
    obtain ⟨rfl, rfl⟩ := hp
    have hP : va_P (gD g) classes [(s0, .inr (1, [.ref b])), (b, .inr (3, [.ref v, .int 0, .int ml, .int (nI xs.length)])), (v, .inl (gB g, cp, .inl a))] H := hP
    have hD : va_D A [(s0, .inr (1, [.ref b])), (b, .inr (3, [.ref v, .int 0, .int ml, .int (nI xs.length)])), (v, .inl (gB g, cp, .inl a))] := hD
    refine lv_icmp_ge (tgt := 66) hx hb d_S_addOwnName_7 (by decide) (fun c_2 => ?_) (fun c_2 => absurd hle c_2)
    have e1 : xs = E := hp1
    subst e1
    exact hend _ _ _ _ ht _ _ hc1 hc2 H locs ls hP hD hS
  | succ d ih =>
    intro xs v cp ml a ht cells slots x hc1 hc2 hlen hd ex hp1 H locs hP hD hS ls hl
    have ht1 := ht.1
    have ht2 := ht.2.1
    have ht3 := ht.2.2.1
    have hj : (li_x i).length - (d + 1) < (li_x i).length := by omega
    have hlt : ¬ nI (li_x i).length ≤ x := by rw [ex]; exact nI_ge hj (by omega)
    refine lv_iload_n hx hb d_S_addOwnName_2 rfl (lv_at hl 0 rfl) ?_
    refine lv_aload_n hx hb d_S_addOwnName_3 rfl (lv_at hl 2 rfl) ?_
    refine go_i (wr := [(s0, .inr (1, [.ref b])), (b, .inr (3, [.ref v, .int 0, .int ml, .int (nI xs.length)])), (v, .inl (gB g, cp, .inl a))]) (run_V hF (c_St_length g l _ i hi) k_St_length j_S_99 se_St_St_length (va_Orecv (G.2.2.2.1 i hi).1 hS) (cw_down G hP hD hS hA [] rfl rfl) ⟨Nat.le_of_ble_eq_true rfl, Nat.le_of_ble_eq_true rfl⟩ rfl hl.1 (Nat.le_of_ble_eq_true rfl) d_S_addOwnName_4 ⟨(by first | exact Nat.le_of_ble_eq_true rfl | (dsimp only; omega) | omega), (by first | exact Nat.le_of_ble_eq_true rfl | (dsimp only; omega) | omega)⟩) hP hD hS hA [] [0, 1, 2] rfl rfl rfl (by decide) (fun r_1 w1 H locs hp hP hD hS => ?_)
    obtain ⟨rfl, rfl⟩ := hp
    have hP : va_P (gD g) classes [(s0, .inr (1, [.ref b])), (b, .inr (3, [.ref v, .int 0, .int ml, .int (nI xs.length)])), (v, .inl (gB g, cp, .inl a))] H := hP
    have hD : va_D A [(s0, .inr (1, [.ref b])), (b, .inr (3, [.ref v, .int 0, .int ml, .int (nI xs.length)])), (v, .inl (gB g, cp, .inl a))] := hD
    refine lv_icmp_ge (tgt := 66) hx hb d_S_addOwnName_7 (by decide) (fun c_2 => absurd c_2 hlt) (fun c_2 => ?_)
    refine lv_aload_n hx hb d_S_addOwnName_10 rfl (lv_at hl 2 rfl) ?_
    refine lv_iload_n hx hb d_S_addOwnName_11 rfl (lv_at hl 0 rfl) ?_
    refine tp_i ex ?_
    refine go_i (wr := [(s0, .inr (1, [.ref b])), (b, .inr (3, [.ref v, .int 0, .int ml, .int (nI xs.length)])), (v, .inl (gB g, cp, .inl a))]) (run_V hF (c_St_charAt g l _ i hi ((li_x i).length - (d + 1)) hj) k_St_charAt j_S_96 se_St_St_charAt (va_Orecv (G.2.2.2.1 i hi).1 hS) (cw_down G hP hD hS hA [] rfl rfl) ⟨Nat.le_of_ble_eq_true rfl, Nat.le_of_ble_eq_true rfl⟩ rfl hl.1 (Nat.le_of_ble_eq_true rfl) d_S_addOwnName_12 ⟨(by first | exact Nat.le_of_ble_eq_true rfl | (dsimp only; omega) | omega), (by first | exact Nat.le_of_ble_eq_true rfl | (dsimp only; omega) | omega)⟩) hP hD hS hA [] [0, 1, 2] rfl rfl rfl (by decide) (fun r_3 w1 H locs hp hP hD hS => ?_)
    obtain ⟨rfl, rfl⟩ := hp
    have hP : va_P (gD g) classes [(s0, .inr (1, [.ref b])), (b, .inr (3, [.ref v, .int 0, .int ml, .int (nI xs.length)])), (v, .inl (gB g, cp, .inl a))] H := hP
    have hD : va_D A [(s0, .inr (1, [.ref b])), (b, .inr (3, [.ref v, .int 0, .int ml, .int (nI xs.length)])), (v, .inl (gB g, cp, .inl a))] := hD
    refine lv_istore_n (lv' := [(3, .int (nI ((li_x i).getD ((li_x i).length - (d + 1)) 0))), (2, .int x), (0, .ref s0), (1, .ref (gK g i))]) hx hb d_S_addOwnName_15 rfl hl (by decide) rfl (fun ls hl => ?_)
    refine lv_iload_n hx hb d_S_addOwnName_16 rfl (lv_at hl 0 rfl) ?_
    refine lv_bipush (v := 46) hx hb d_S_addOwnName_17 (by decide) ?_
    refine lv_icmp_eq (tgt := 40) hx hb d_S_addOwnName_19 (by decide) (fun c_4 => ?_) (fun c_4 => ?_)
    · skip
      refine lv_aload_n hx hb d_S_addOwnName_40 rfl (lv_at hl 2 rfl) ?_
      refine va_get (D := gD g) (ci := 1) (v := .ref b) (C := R_S) (T := F_S) (N := 1) hx hb hF.2.2.2.2 in_S hF.2.2.2.1 hK hP 0 rfl rfl 0 (by decide) (hF.2.2.2.2 _ fl_S_12) (fun _ h9 => h9) rfl d_S_addOwnName_41 ?_
      refine lv_iconst (v := 0) hx hb d_S_addOwnName_44 (by decide) ?_
      refine go_v (wr := [(s0, .inr (1, [.ref b]))]) (run_V hF (c_SB_setLength g l _ b v cp ml a xs ht) k_SB_setLength j_S_26 se_SB_SB_setLength (va_recv hK hP (ci := 3) (q0 := 1) rfl rfl) (cw_down G hP hD hS hA [1, 2] rfl rfl) ⟨Nat.le_of_ble_eq_true rfl, Nat.le_of_ble_eq_true rfl⟩ rfl hl.1 (Nat.le_of_ble_eq_true rfl) d_S_addOwnName_45 ⟨(by first | exact Nat.le_of_ble_eq_true rfl | (dsimp only; omega) | omega), (by first | exact Nat.le_of_ble_eq_true rfl | (dsimp only; omega) | omega)⟩) hP hD hS hA [1, 2] [0] rfl rfl rfl (by decide) (fun w1 H locs hp hP hD hS => ?_)
      obtain ⟨v_6, ml_6, f_6, rfl, ht_6⟩ := hp
      have hP : va_P (gD g) classes [(s0, .inr (1, [.ref b])), (b, .inr (3, [.ref v_6, .int 0, .int ml_6, .int (nI ([] : List Nat).length)])), (v_6, .inl (gB g, cp, .inl f_6))] H := hP
      have hD : va_D A [(s0, .inr (1, [.ref b])), (b, .inr (3, [.ref v_6, .int 0, .int ml_6, .int (nI ([] : List Nat).length)])), (v_6, .inl (gB g, cp, .inl f_6))] := hD
      refine lv_goto (tgt := 60) hx hb d_S_addOwnName_48 (by decide) ?_
      refine lv_iinc (v := (x + 1)) (lv' := [(2, .int (x + 1)), (3, .int (nI ((li_x i).getD ((li_x i).length - (d + 1)) 0))), (0, .ref s0), (1, .ref (gK g i))]) hx hb d_S_addOwnName_60 hl (k := 1) rfl (by first | rfl | decide) (by decide) rfl (fun ls hl => ?_)
      refine lv_goto (tgt := 2) hx hb d_S_addOwnName_63 (by decide) ?_
      exact ih ([] : List Nat) _ _ _ _ ht_6 _ _ _ (by omega) (by omega) (by omega) (by omega) (by rw [ex, nI_1]; congr 1; omega) (by rw [zg_S_addOwnName, if_pos c_4] at hp1; exact hp1) _ _ (hP.sub (ws' := [(s0, .inr (1, [.ref b])), (b, .inr (3, [.ref v_6, .int 0, .int ml_6, .int (nI ([] : List Nat).length)])), (v_6, .inl (gB g, cp, .inl f_6))]) [0, 1, 2] rfl) (hD.sub (ws' := [(s0, .inr (1, [.ref b])), (b, .inr (3, [.ref v_6, .int 0, .int ml_6, .int (nI ([] : List Nat).length)])), (v_6, .inl (gB g, cp, .inl f_6))]) [0, 1, 2] rfl rfl) hS _ (lv_sub hl [0, 2, 3] rfl)
    · skip
      refine lv_iload_n hx hb d_S_addOwnName_22 rfl (lv_at hl 0 rfl) ?_
      refine lv_bipush (v := 36) hx hb d_S_addOwnName_23 (by decide) ?_
      refine lv_icmp_eq (tgt := 40) hx hb d_S_addOwnName_25 (by decide) (fun c_7 => ?_) (fun c_7 => ?_)
      · skip
        refine lv_aload_n hx hb d_S_addOwnName_40 rfl (lv_at hl 2 rfl) ?_
        refine va_get (D := gD g) (ci := 1) (v := .ref b) (C := R_S) (T := F_S) (N := 1) hx hb hF.2.2.2.2 in_S hF.2.2.2.1 hK hP 0 rfl rfl 0 (by decide) (hF.2.2.2.2 _ fl_S_12) (fun _ h9 => h9) rfl d_S_addOwnName_41 ?_
        refine lv_iconst (v := 0) hx hb d_S_addOwnName_44 (by decide) ?_
        refine go_v (wr := [(s0, .inr (1, [.ref b]))]) (run_V hF (c_SB_setLength g l _ b v cp ml a xs ht) k_SB_setLength j_S_26 se_SB_SB_setLength (va_recv hK hP (ci := 3) (q0 := 1) rfl rfl) (cw_down G hP hD hS hA [1, 2] rfl rfl) ⟨Nat.le_of_ble_eq_true rfl, Nat.le_of_ble_eq_true rfl⟩ rfl hl.1 (Nat.le_of_ble_eq_true rfl) d_S_addOwnName_45 ⟨(by first | exact Nat.le_of_ble_eq_true rfl | (dsimp only; omega) | omega), (by first | exact Nat.le_of_ble_eq_true rfl | (dsimp only; omega) | omega)⟩) hP hD hS hA [1, 2] [0] rfl rfl rfl (by decide) (fun w1 H locs hp hP hD hS => ?_)
        obtain ⟨v_9, ml_9, f_9, rfl, ht_9⟩ := hp
        have hP : va_P (gD g) classes [(s0, .inr (1, [.ref b])), (b, .inr (3, [.ref v_9, .int 0, .int ml_9, .int (nI ([] : List Nat).length)])), (v_9, .inl (gB g, cp, .inl f_9))] H := hP
        have hD : va_D A [(s0, .inr (1, [.ref b])), (b, .inr (3, [.ref v_9, .int 0, .int ml_9, .int (nI ([] : List Nat).length)])), (v_9, .inl (gB g, cp, .inl f_9))] := hD
        refine lv_goto (tgt := 60) hx hb d_S_addOwnName_48 (by decide) ?_
        refine lv_iinc (v := (x + 1)) (lv' := [(2, .int (x + 1)), (3, .int (nI ((li_x i).getD ((li_x i).length - (d + 1)) 0))), (0, .ref s0), (1, .ref (gK g i))]) hx hb d_S_addOwnName_60 hl (k := 1) rfl (by first | rfl | decide) (by decide) rfl (fun ls hl => ?_)
        refine lv_goto (tgt := 2) hx hb d_S_addOwnName_63 (by decide) ?_
        exact ih ([] : List Nat) _ _ _ _ ht_9 _ _ _ (by omega) (by omega) (by omega) (by omega) (by rw [ex, nI_1]; congr 1; omega) (by rw [zg_S_addOwnName, if_neg c_4, if_pos c_7] at hp1; exact hp1) _ _ (hP.sub (ws' := [(s0, .inr (1, [.ref b])), (b, .inr (3, [.ref v_9, .int 0, .int ml_9, .int (nI ([] : List Nat).length)])), (v_9, .inl (gB g, cp, .inl f_9))]) [0, 1, 2] rfl) (hD.sub (ws' := [(s0, .inr (1, [.ref b])), (b, .inr (3, [.ref v_9, .int 0, .int ml_9, .int (nI ([] : List Nat).length)])), (v_9, .inl (gB g, cp, .inl f_9))]) [0, 1, 2] rfl rfl) hS _ (lv_sub hl [0, 2, 3] rfl)
      · skip
        refine lv_iload_n hx hb d_S_addOwnName_28 rfl (lv_at hl 0 rfl) ?_
        refine lv_bipush (v := 48) hx hb d_S_addOwnName_29 (by decide) ?_
        refine lv_icmp_lt (tgt := 51) hx hb d_S_addOwnName_31 (by decide) (fun c_10 => ?_) (fun c_10 => ?_)
        · skip
          refine lv_aload_n hx hb d_S_addOwnName_51 rfl (lv_at hl 2 rfl) ?_
          refine va_get (D := gD g) (ci := 1) (v := .ref b) (C := R_S) (T := F_S) (N := 1) hx hb hF.2.2.2.2 in_S hF.2.2.2.1 hK hP 0 rfl rfl 0 (by decide) (hF.2.2.2.2 _ fl_S_12) (fun _ h9 => h9) rfl d_S_addOwnName_52 ?_
          refine lv_iload_n hx hb d_S_addOwnName_55 rfl (lv_at hl 0 rfl) ?_
          have hga_11 := gc_le (xs.length + 1) cp (by omega)
          have hgb_11 := gs_le (xs.length + 1) cp
          have hgd_11 := sb_cap_gem (xs.length + 1) cp
          have hgc_11 := cap_le (xs.length + 1) cp (by omega) (by omega)
          refine go_r (wr := [(s0, .inr (1, [.ref b]))]) (run_V hF (c_SB_append_C g l _ b v cp ml a xs ht ((li_x i).getD ((li_x i).length - (d + 1)) 0) (li_ch hi _) (by omega)) k_SB_append_C j_S_88 se_SB_SB_append_C (va_recv hK hP (ci := 3) (q0 := 1) rfl rfl) (cw_down G hP hD hS hA [1, 2] rfl rfl) ⟨Nat.le_of_ble_eq_true rfl, Nat.le_of_ble_eq_true rfl⟩ rfl hl.1 (Nat.le_of_ble_eq_true rfl) d_S_addOwnName_56 ⟨(by first | exact Nat.le_of_ble_eq_true rfl | (dsimp only; omega) | omega), (by first | exact Nat.le_of_ble_eq_true rfl | (dsimp only; omega) | omega)⟩) hP hD hS hA [1, 2] [0] rfl rfl rfl (by decide) (fun r_12 w1 H locs hp hP hD hS => ?_)
          obtain ⟨er, v_13, f_13, rfl, ht_13⟩ := hp
          rw [er]
          have hge_14 := ht_13.2.2.1
          have hgf_14 : (xs ++ [((li_x i).getD ((li_x i).length - (d + 1)) 0)]).length = (xs.length + 1) := by rw [List.length_append]; rfl
          have hP : va_P (gD g) classes [(s0, .inr (1, [.ref b])), (b, .inr (3, [.ref v_13, .int 0, .int ml, .int (nI (xs ++ [((li_x i).getD ((li_x i).length - (d + 1)) 0)]).length)])), (v_13, .inl (gB g, (sb_cap (xs.length + 1) cp), .inl f_13))] H := hP
          have hD : va_D A [(s0, .inr (1, [.ref b])), (b, .inr (3, [.ref v_13, .int 0, .int ml, .int (nI (xs ++ [((li_x i).getD ((li_x i).length - (d + 1)) 0)]).length)])), (v_13, .inl (gB g, (sb_cap (xs.length + 1) cp), .inl f_13))] := hD
          refine lv_pop hx hb d_S_addOwnName_59 rfl ?_
          refine lv_iinc (v := (x + 1)) (lv' := [(2, .int (x + 1)), (3, .int (nI ((li_x i).getD ((li_x i).length - (d + 1)) 0))), (0, .ref s0), (1, .ref (gK g i))]) hx hb d_S_addOwnName_60 hl (k := 1) rfl (by first | rfl | decide) (by decide) rfl (fun ls hl => ?_)
          refine lv_goto (tgt := 2) hx hb d_S_addOwnName_63 (by decide) ?_
          exact ih (xs ++ [((li_x i).getD ((li_x i).length - (d + 1)) 0)]) _ _ _ _ ht_13 _ _ _ (by omega) (by omega) (by omega) (by omega) (by rw [ex, nI_1]; congr 1; omega) (by rw [zg_S_addOwnName, if_neg c_4, if_neg c_7, if_pos c_10] at hp1; exact hp1) _ _ (hP.sub (ws' := [(s0, .inr (1, [.ref b])), (b, .inr (3, [.ref v_13, .int 0, .int ml, .int (nI (xs ++ [((li_x i).getD ((li_x i).length - (d + 1)) 0)]).length)])), (v_13, .inl (gB g, (sb_cap (xs.length + 1) cp), .inl f_13))]) [0, 1, 2] rfl) (hD.sub (ws' := [(s0, .inr (1, [.ref b])), (b, .inr (3, [.ref v_13, .int 0, .int ml, .int (nI (xs ++ [((li_x i).getD ((li_x i).length - (d + 1)) 0)]).length)])), (v_13, .inl (gB g, (sb_cap (xs.length + 1) cp), .inl f_13))]) [0, 1, 2] rfl rfl) hS _ (lv_sub hl [0, 2, 3] rfl)
        · skip
          refine lv_iload_n hx hb d_S_addOwnName_34 rfl (lv_at hl 0 rfl) ?_
          refine lv_bipush (v := 57) hx hb d_S_addOwnName_35 (by decide) ?_
          refine lv_icmp_gt (tgt := 51) hx hb d_S_addOwnName_37 (by decide) (fun c_15 => ?_) (fun c_15 => ?_)
          · skip
            refine lv_aload_n hx hb d_S_addOwnName_51 rfl (lv_at hl 2 rfl) ?_
            refine va_get (D := gD g) (ci := 1) (v := .ref b) (C := R_S) (T := F_S) (N := 1) hx hb hF.2.2.2.2 in_S hF.2.2.2.1 hK hP 0 rfl rfl 0 (by decide) (hF.2.2.2.2 _ fl_S_12) (fun _ h9 => h9) rfl d_S_addOwnName_52 ?_
            refine lv_iload_n hx hb d_S_addOwnName_55 rfl (lv_at hl 0 rfl) ?_
            have hga_16 := gc_le (xs.length + 1) cp (by omega)
            have hgb_16 := gs_le (xs.length + 1) cp
            have hgd_16 := sb_cap_gem (xs.length + 1) cp
            have hgc_16 := cap_le (xs.length + 1) cp (by omega) (by omega)
            refine go_r (wr := [(s0, .inr (1, [.ref b]))]) (run_V hF (c_SB_append_C g l _ b v cp ml a xs ht ((li_x i).getD ((li_x i).length - (d + 1)) 0) (li_ch hi _) (by omega)) k_SB_append_C j_S_88 se_SB_SB_append_C (va_recv hK hP (ci := 3) (q0 := 1) rfl rfl) (cw_down G hP hD hS hA [1, 2] rfl rfl) ⟨Nat.le_of_ble_eq_true rfl, Nat.le_of_ble_eq_true rfl⟩ rfl hl.1 (Nat.le_of_ble_eq_true rfl) d_S_addOwnName_56 ⟨(by first | exact Nat.le_of_ble_eq_true rfl | (dsimp only; omega) | omega), (by first | exact Nat.le_of_ble_eq_true rfl | (dsimp only; omega) | omega)⟩) hP hD hS hA [1, 2] [0] rfl rfl rfl (by decide) (fun r_17 w1 H locs hp hP hD hS => ?_)
            obtain ⟨er, v_18, f_18, rfl, ht_18⟩ := hp
            rw [er]
            have hge_19 := ht_18.2.2.1
            have hgf_19 : (xs ++ [((li_x i).getD ((li_x i).length - (d + 1)) 0)]).length = (xs.length + 1) := by rw [List.length_append]; rfl
            have hP : va_P (gD g) classes [(s0, .inr (1, [.ref b])), (b, .inr (3, [.ref v_18, .int 0, .int ml, .int (nI (xs ++ [((li_x i).getD ((li_x i).length - (d + 1)) 0)]).length)])), (v_18, .inl (gB g, (sb_cap (xs.length + 1) cp), .inl f_18))] H := hP
            have hD : va_D A [(s0, .inr (1, [.ref b])), (b, .inr (3, [.ref v_18, .int 0, .int ml, .int (nI (xs ++ [((li_x i).getD ((li_x i).length - (d + 1)) 0)]).length)])), (v_18, .inl (gB g, (sb_cap (xs.length + 1) cp), .inl f_18))] := hD
            refine lv_pop hx hb d_S_addOwnName_59 rfl ?_
            refine lv_iinc (v := (x + 1)) (lv' := [(2, .int (x + 1)), (3, .int (nI ((li_x i).getD ((li_x i).length - (d + 1)) 0))), (0, .ref s0), (1, .ref (gK g i))]) hx hb d_S_addOwnName_60 hl (k := 1) rfl (by first | rfl | decide) (by decide) rfl (fun ls hl => ?_)
            refine lv_goto (tgt := 2) hx hb d_S_addOwnName_63 (by decide) ?_
            exact ih (xs ++ [((li_x i).getD ((li_x i).length - (d + 1)) 0)]) _ _ _ _ ht_18 _ _ _ (by omega) (by omega) (by omega) (by omega) (by rw [ex, nI_1]; congr 1; omega) (by rw [zg_S_addOwnName, if_neg c_4, if_neg c_7, if_neg c_10, if_pos c_15] at hp1; exact hp1) _ _ (hP.sub (ws' := [(s0, .inr (1, [.ref b])), (b, .inr (3, [.ref v_18, .int 0, .int ml, .int (nI (xs ++ [((li_x i).getD ((li_x i).length - (d + 1)) 0)]).length)])), (v_18, .inl (gB g, (sb_cap (xs.length + 1) cp), .inl f_18))]) [0, 1, 2] rfl) (hD.sub (ws' := [(s0, .inr (1, [.ref b])), (b, .inr (3, [.ref v_18, .int 0, .int ml, .int (nI (xs ++ [((li_x i).getD ((li_x i).length - (d + 1)) 0)]).length)])), (v_18, .inl (gB g, (sb_cap (xs.length + 1) cp), .inl f_18))]) [0, 1, 2] rfl rfl) hS _ (lv_sub hl [0, 2, 3] rfl)
          · skip
            refine lv_aload_n hx hb d_S_addOwnName_40 rfl (lv_at hl 2 rfl) ?_
            refine va_get (D := gD g) (ci := 1) (v := .ref b) (C := R_S) (T := F_S) (N := 1) hx hb hF.2.2.2.2 in_S hF.2.2.2.1 hK hP 0 rfl rfl 0 (by decide) (hF.2.2.2.2 _ fl_S_12) (fun _ h9 => h9) rfl d_S_addOwnName_41 ?_
            refine lv_iconst (v := 0) hx hb d_S_addOwnName_44 (by decide) ?_
            refine go_v (wr := [(s0, .inr (1, [.ref b]))]) (run_V hF (c_SB_setLength g l _ b v cp ml a xs ht) k_SB_setLength j_S_26 se_SB_SB_setLength (va_recv hK hP (ci := 3) (q0 := 1) rfl rfl) (cw_down G hP hD hS hA [1, 2] rfl rfl) ⟨Nat.le_of_ble_eq_true rfl, Nat.le_of_ble_eq_true rfl⟩ rfl hl.1 (Nat.le_of_ble_eq_true rfl) d_S_addOwnName_45 ⟨(by first | exact Nat.le_of_ble_eq_true rfl | (dsimp only; omega) | omega), (by first | exact Nat.le_of_ble_eq_true rfl | (dsimp only; omega) | omega)⟩) hP hD hS hA [1, 2] [0] rfl rfl rfl (by decide) (fun w1 H locs hp hP hD hS => ?_)
            obtain ⟨v_21, ml_21, f_21, rfl, ht_21⟩ := hp
            have hP : va_P (gD g) classes [(s0, .inr (1, [.ref b])), (b, .inr (3, [.ref v_21, .int 0, .int ml_21, .int (nI ([] : List Nat).length)])), (v_21, .inl (gB g, cp, .inl f_21))] H := hP
            have hD : va_D A [(s0, .inr (1, [.ref b])), (b, .inr (3, [.ref v_21, .int 0, .int ml_21, .int (nI ([] : List Nat).length)])), (v_21, .inl (gB g, cp, .inl f_21))] := hD
            refine lv_goto (tgt := 60) hx hb d_S_addOwnName_48 (by decide) ?_
            refine lv_iinc (v := (x + 1)) (lv' := [(2, .int (x + 1)), (3, .int (nI ((li_x i).getD ((li_x i).length - (d + 1)) 0))), (0, .ref s0), (1, .ref (gK g i))]) hx hb d_S_addOwnName_60 hl (k := 1) rfl (by first | rfl | decide) (by decide) rfl (fun ls hl => ?_)
            refine lv_goto (tgt := 2) hx hb d_S_addOwnName_63 (by decide) ?_
            exact ih ([] : List Nat) _ _ _ _ ht_21 _ _ _ (by omega) (by omega) (by omega) (by omega) (by rw [ex, nI_1]; congr 1; omega) (by rw [zg_S_addOwnName, if_neg c_4, if_neg c_7, if_neg c_10, if_neg c_15] at hp1; exact hp1) _ _ (hP.sub (ws' := [(s0, .inr (1, [.ref b])), (b, .inr (3, [.ref v_21, .int 0, .int ml_21, .int (nI ([] : List Nat).length)])), (v_21, .inl (gB g, cp, .inl f_21))]) [0, 1, 2] rfl) (hD.sub (ws' := [(s0, .inr (1, [.ref b])), (b, .inr (3, [.ref v_21, .int 0, .int ml_21, .int (nI ([] : List Nat).length)])), (v_21, .inl (gB g, cp, .inl f_21))]) [0, 1, 2] rfl rfl) hS _ (lv_sub hl [0, 2, 3] rfl)
def z_S_addOwnName (xs : List Nat) (i : Nat) : List Nat := zg_S_addOwnName i (li_x i).length xs
theorem zg_aon_len (i : Nat) : ∀ (d : Nat) (xs : List Nat), (zg_S_addOwnName i d xs).length ≤ xs.length + d := by
  have hnil : ([] : List Nat).length = 0 := rfl
  intro d
  induction d with
  | zero => intro xs; exact Nat.le_refl _
  | succ d ih =>
    intro xs
    have h1 := ih ([] : List Nat)
    have h2 : ∀ c : Nat, (zg_S_addOwnName i d (xs ++ [c])).length ≤ xs.length + 1 + d := fun c => by
      have h3 := ih (xs ++ [c])
      rw [List.length_append] at h3
      exact h3
    have h4 := h2 ((li_x i).getD ((li_x i).length - (d + 1)) 0)
    rw [zg_S_addOwnName]
    repeat' split
    all_goals omega
theorem pr_ltd : ∀ j : Nat, j < 25 → f_B_isPrimitive (nI j) = 0 ∨ j < (li_x 0).length := by decide +kernel
theorem pr_lt {j : Nat} (h : j < 25) (h2 : ¬ f_B_isPrimitive (nI j) = 0) : j < (li_x 0).length := (pr_ltd j h).resolve_left h2
set_option maxHeartbeats 4000000 in
set_option maxRecDepth 100000 in
theorem c_S_addOwnName (g : gT) (l : Launch) (sz : Nat) (s0 b v cp : Nat) (ml : Int32) (a : Nat → Int32) (xs : List Nat) (ht : tx xs cp a) (i : Nat) (hlen : xs.length + 21 ≤ 70) (hi : i < 41) : Mg g l y_S_addOwnName b_S_addOwnName 4 (none) 6 146 7 252 [.ref s0, .ref (gK g i)] [(s0, .inr (1, [.ref b])), (b, .inr (3, [.ref v, .int 0, .int ml, .int (nI xs.length)])), (v, .inl (gB g, cp, .inl a))] sz (qV g (fun w1 => ∃ (v' cp' : Nat) (ml' : Int32) (f : Nat → Int32), w1 = [(s0, .inr (1, [.ref b])), (b, .inr (3, [.ref v', .int 0, .int ml', .int (nI (z_S_addOwnName xs i).length)])), (v', .inl (gB g, cp', .inl f))] ∧ tx (z_S_addOwnName xs i) cp' f ∧ (z_S_addOwnName xs i).length ≤ xs.length + 21)) := by
  refine mg_of (by decide) (Nat.le_of_ble_eq_true rfl) ?_
  intro p e s m below meth c ls A hx hb hF hr hlk hnm hA G hP hD hS hl
  have ht2 := ht.2.1
  have h21 := li_40 i hi
  have hl : lv_has ls 4 [(0, .ref s0), (1, .ref (gK g i))] := hl
  refine lv_iconst (v := 0) hx hb d_S_addOwnName_0 (by decide) ?_
  refine lv_istore_n (lv' := [(2, .int 0), (0, .ref s0), (1, .ref (gK g i))]) hx hb d_S_addOwnName_1 rfl hl (by decide) rfl (fun ls hl => ?_)
  exact lp_S_addOwnName s0 b i hi hx hb hF hA G (z_S_addOwnName xs i) (fun v2 cp2 ml2 a2 ht2 cells slots h1 h2 H locs ls hP hD hS => ret_v hx hb hr hlk hP hD hS ⟨_, _, _, _, rfl, ht2, Nat.le_trans (zg_aon_len i _ xs) (by omega)⟩ (by have := ht2.2.2.1; omega) (by have := ht2.2.2.1; omega) d_S_addOwnName_66) (li_x i).length xs v cp ml a ht 0 0 0 (by omega) (by omega) (by omega) (Nat.le_refl _) (by rw [Nat.sub_self]; rfl) rfl _ _ hP hD hS ls hl
def z_S_addBrackets (xs : List Nat) (t : Int32) : List Nat := (if (f_B_levels t) ≤ 0 then xs else (if (f_B_levels t) ≤ 1 then (xs ++ li_x 27) else ((xs ++ li_x 27) ++ li_x 27)))
set_option maxRecDepth 100000 in
theorem k_S_addBrackets : ck y_S_addBrackets b_S_addBrackets 3 (none) 1 (.instanceMethod y_S_addBrackets) := ⟨tk_of (List.mem_of_getElem? (i := 384) rfl) rfl, tk_of (List.mem_of_getElem? (i := 383) (by decide +kernel)) rfl, tk_of (List.mem_of_getElem? (i := 37) (by decide +kernel)) rfl, by decide +kernel⟩
theorem j_S_85 : Cond.methodLinkNest R_S 85 y_B_levels R_P ∈ nw_l := nw_of (List.mem_of_getElem? (i := 218) (by decide +kernel)) rfl
theorem lr_27 {g : gT} {A : Nat → Prop} {s : State} {H : Heap} (G : Gx g A s H) : vk_R R_S 100 "[]" (gK g 27) s := G.2.2.1 27 ("ClassProbe$Script", 100, "[]") (by decide +kernel)
theorem j_S_61 : Cond.methodLink R_S 61 y_SB_append_S ∈ tk := tk_of (List.mem_of_getElem? (i := 338) (by decide +kernel)) rfl
theorem se_SB_SB_append_S : Cond.selects R_SB y_SB_append_S y_SB_append_S ∈ tk := tk_of (List.mem_of_getElem? (i := 340) (by decide +kernel)) rfl
set_option maxHeartbeats 4000000 in
set_option maxRecDepth 100000 in
theorem c_S_addBrackets (g : gT) (l : Launch) (sz : Nat) (s0 b v cp : Nat) (ml : Int32) (a : Nat → Int32) (xs : List Nat) (ht : tx xs cp a) (t : Int32) (hlen : xs.length + 4 ≤ 70) (hL : f_B_levels t ≤ 2) : Mg g l y_S_addBrackets b_S_addBrackets 3 (none) 6 148 7 252 [.ref s0, .int t] [(s0, .inr (1, [.ref b])), (b, .inr (3, [.ref v, .int 0, .int ml, .int (nI xs.length)])), (v, .inl (gB g, cp, .inl a))] sz (qV g (fun w1 => ∃ (v' cp' : Nat) (ml' : Int32) (f : Nat → Int32), w1 = [(s0, .inr (1, [.ref b])), (b, .inr (3, [.ref v', .int 0, .int ml', .int (nI (z_S_addBrackets xs t).length)])), (v', .inl (gB g, cp', .inl f))] ∧ tx (z_S_addBrackets xs t) cp' f ∧ (z_S_addBrackets xs t).length ≤ xs.length + 4)) := by
  refine mg_of (by decide) (Nat.le_of_ble_eq_true rfl) ?_
  intro p e s m below meth c ls A hx hb hF hr hlk hnm hA G hP hD hS hl
  have hK := G.2.1
  have hN := G.1
  have hl : lv_has ls 3 [(0, .ref s0), (1, .int t)] := hl
  have ht1 := ht.1
  have ht2 := ht.2.1
  have ht3 := ht.2.2.1
  have hl27 : (li_x 27).length = 2 := rfl
  refine lv_iconst (v := 0) hx hb d_S_addBrackets_0 (by decide) ?_
  refine lv_istore_n (lv' := [(2, .int 0), (0, .ref s0), (1, .int t)]) hx hb d_S_addBrackets_1 rfl hl (by decide) rfl (fun ls hl => ?_)
  refine lv_iload_n hx hb d_S_addBrackets_2 rfl (lv_at hl 0 rfl) ?_
  refine lv_iload_n hx hb d_S_addBrackets_3 rfl (lv_at hl 2 rfl) ?_
  refine pm_callNE hF hN (c_B_levels l t) k_B_levels j_S_85 ⟨Nat.le_of_ble_eq_true rfl, Nat.le_of_ble_eq_true rfl⟩ rfl hl.1 (Nat.le_of_ble_eq_true rfl) d_S_addBrackets_4 ⟨by first | exact Nat.le_of_ble_eq_true rfl | (dsimp only; omega) | omega | exact Nat.zero_le _, by first | exact Nat.le_of_ble_eq_true rfl | (dsimp only; omega) | omega | exact Nat.zero_le _⟩ ?_
  refine lv_icmp_ge (tgt := 26) hx hb d_S_addBrackets_7 (by decide) (fun c_2 => ?_) (fun c_2 => ?_)
  · skip
    have e : z_S_addBrackets xs t = xs := by rw [z_S_addBrackets, if_pos c_2]
    exact ret_v hx hb hr hlk (hP.sub (ws' := [(s0, .inr (1, [.ref b])), (b, .inr (3, [.ref v, .int 0, .int ml, .int (nI xs.length)])), (v, .inl (gB g, cp, .inl a))]) [0, 1, 2] rfl) (hD.sub (ws' := [(s0, .inr (1, [.ref b])), (b, .inr (3, [.ref v, .int 0, .int ml, .int (nI xs.length)])), (v, .inl (gB g, cp, .inl a))]) [0, 1, 2] rfl rfl) hS ⟨_, _, _, _, by rw [e], by rw [e]; exact ht, by rw [e]; omega⟩ (by first | exact Nat.le_of_ble_eq_true rfl | (dsimp only; omega) | omega) (by first | exact Nat.le_of_ble_eq_true rfl | (dsimp only; omega) | omega) d_S_addBrackets_26
  · skip
    refine lv_aload_n hx hb d_S_addBrackets_10 rfl (lv_at hl 1 rfl) ?_
    refine va_get (D := gD g) (ci := 1) (v := .ref b) (C := R_S) (T := F_S) (N := 1) hx hb hF.2.2.2.2 in_S hF.2.2.2.1 hK hP 0 rfl rfl 0 (by decide) (hF.2.2.2.2 _ fl_S_12) (fun _ h9 => h9) rfl d_S_addBrackets_11 ?_
    refine va_ldcS hx hb hF.2.2.2.1 (lr_27 G) d_S_addBrackets_14 ?_
    have h21_3 := li_40 27 (by decide)
    have hga_4 := gc_le (xs.length + (li_x 27).length) cp (by omega)
    have hgb_4 := gs_le (xs.length + (li_x 27).length) cp
    have hgd_4 := sb_cap_gem (xs.length + (li_x 27).length) cp
    have hgc_4 := cap_le (xs.length + (li_x 27).length) cp (by omega) (by omega)
    refine go_r (wr := [(s0, .inr (1, [.ref b]))]) (run_V hF (c_SB_append_S g l _ b v cp ml a xs ht 27 (by decide) (by omega)) k_SB_append_S j_S_61 se_SB_SB_append_S (va_recv hK hP (ci := 3) (q0 := 1) rfl rfl) (cw_down G hP hD hS hA [1, 2] rfl rfl) ⟨Nat.le_of_ble_eq_true rfl, Nat.le_of_ble_eq_true rfl⟩ rfl hl.1 (Nat.le_of_ble_eq_true rfl) d_S_addBrackets_16 ⟨(by first | exact Nat.le_of_ble_eq_true rfl | (dsimp only; omega) | omega), (by first | exact Nat.le_of_ble_eq_true rfl | (dsimp only; omega) | omega)⟩) hP hD hS hA [1, 2] [0] rfl rfl rfl (by decide) (fun r_5 w1 H locs hp hP hD hS => ?_)
    obtain ⟨er, v_6, f_6, rfl, ht_6⟩ := hp
    rw [er]
    have hge_7 := ht_6.2.2.1
    have hgf_7 : (xs ++ li_x 27).length = (xs.length + (li_x 27).length) := by rw [List.length_append]
    have hP : va_P (gD g) classes [(s0, .inr (1, [.ref b])), (b, .inr (3, [.ref v_6, .int 0, .int ml, .int (nI (xs ++ li_x 27).length)])), (v_6, .inl (gB g, (sb_cap (xs.length + (li_x 27).length) cp), .inl f_6))] H := hP
    have hD : va_D A [(s0, .inr (1, [.ref b])), (b, .inr (3, [.ref v_6, .int 0, .int ml, .int (nI (xs ++ li_x 27).length)])), (v_6, .inl (gB g, (sb_cap (xs.length + (li_x 27).length) cp), .inl f_6))] := hD
    refine lv_pop hx hb d_S_addBrackets_19 rfl ?_
    refine lv_iinc (v := 1) (lv' := [(2, .int 1), (0, .ref s0), (1, .int t)]) hx hb d_S_addBrackets_20 hl (k := 0) rfl (by first | rfl | decide) (by decide) rfl (fun ls hl => ?_)
    refine lv_goto (tgt := 2) hx hb d_S_addBrackets_23 (by decide) ?_
    refine lv_iload_n hx hb d_S_addBrackets_2 rfl (lv_at hl 0 rfl) ?_
    refine lv_iload_n hx hb d_S_addBrackets_3 rfl (lv_at hl 2 rfl) ?_
    refine pm_callNE hF hN (c_B_levels l t) k_B_levels j_S_85 ⟨Nat.le_of_ble_eq_true rfl, Nat.le_of_ble_eq_true rfl⟩ rfl hl.1 (Nat.le_of_ble_eq_true rfl) d_S_addBrackets_4 ⟨by first | exact Nat.le_of_ble_eq_true rfl | (dsimp only; omega) | omega | exact Nat.zero_le _, by first | exact Nat.le_of_ble_eq_true rfl | (dsimp only; omega) | omega | exact Nat.zero_le _⟩ ?_
    refine lv_icmp_ge (tgt := 26) hx hb d_S_addBrackets_7 (by decide) (fun c_9 => ?_) (fun c_9 => ?_)
    · skip
      have e : z_S_addBrackets xs t = (xs ++ li_x 27) := by rw [z_S_addBrackets, if_neg c_2, if_pos c_9]
      exact ret_v hx hb hr hlk (hP.sub (ws' := [(s0, .inr (1, [.ref b])), (b, .inr (3, [.ref v_6, .int 0, .int ml, .int (nI (xs ++ li_x 27).length)])), (v_6, .inl (gB g, (sb_cap (xs.length + (li_x 27).length) cp), .inl f_6))]) [0, 1, 2] rfl) (hD.sub (ws' := [(s0, .inr (1, [.ref b])), (b, .inr (3, [.ref v_6, .int 0, .int ml, .int (nI (xs ++ li_x 27).length)])), (v_6, .inl (gB g, (sb_cap (xs.length + (li_x 27).length) cp), .inl f_6))]) [0, 1, 2] rfl rfl) hS ⟨_, _, _, _, by rw [e], by rw [e]; exact ht_6, by rw [e]; omega⟩ (by first | exact Nat.le_of_ble_eq_true rfl | (dsimp only; omega) | omega) (by first | exact Nat.le_of_ble_eq_true rfl | (dsimp only; omega) | omega) d_S_addBrackets_26
    · skip
      refine lv_aload_n hx hb d_S_addBrackets_10 rfl (lv_at hl 1 rfl) ?_
      refine va_get (D := gD g) (ci := 1) (v := .ref b) (C := R_S) (T := F_S) (N := 1) hx hb hF.2.2.2.2 in_S hF.2.2.2.1 hK hP 0 rfl rfl 0 (by decide) (hF.2.2.2.2 _ fl_S_12) (fun _ h9 => h9) rfl d_S_addBrackets_11 ?_
      refine va_ldcS hx hb hF.2.2.2.1 (lr_27 G) d_S_addBrackets_14 ?_
      have h21_10 := li_40 27 (by decide)
      have hga_11 := gc_le ((xs ++ li_x 27).length + (li_x 27).length) (sb_cap (xs.length + (li_x 27).length) cp) (by omega)
      have hgb_11 := gs_le ((xs ++ li_x 27).length + (li_x 27).length) (sb_cap (xs.length + (li_x 27).length) cp)
      have hgd_11 := sb_cap_gem ((xs ++ li_x 27).length + (li_x 27).length) (sb_cap (xs.length + (li_x 27).length) cp)
      have hgc_11 := cap_le ((xs ++ li_x 27).length + (li_x 27).length) (sb_cap (xs.length + (li_x 27).length) cp) (by omega) (by omega)
      refine go_r (wr := [(s0, .inr (1, [.ref b]))]) (run_V hF (c_SB_append_S g l _ b v_6 (sb_cap (xs.length + (li_x 27).length) cp) ml f_6 (xs ++ li_x 27) ht_6 27 (by decide) (by omega)) k_SB_append_S j_S_61 se_SB_SB_append_S (va_recv hK hP (ci := 3) (q0 := 1) rfl rfl) (cw_down G hP hD hS hA [1, 2] rfl rfl) ⟨Nat.le_of_ble_eq_true rfl, Nat.le_of_ble_eq_true rfl⟩ rfl hl.1 (Nat.le_of_ble_eq_true rfl) d_S_addBrackets_16 ⟨(by first | exact Nat.le_of_ble_eq_true rfl | (dsimp only; omega) | omega), (by first | exact Nat.le_of_ble_eq_true rfl | (dsimp only; omega) | omega)⟩) hP hD hS hA [1, 2] [0] rfl rfl rfl (by decide) (fun r_12 w1 H locs hp hP hD hS => ?_)
      obtain ⟨er, v_13, f_13, rfl, ht_13⟩ := hp
      rw [er]
      have hge_14 := ht_13.2.2.1
      have hgf_14 : ((xs ++ li_x 27) ++ li_x 27).length = ((xs ++ li_x 27).length + (li_x 27).length) := by rw [List.length_append]
      have hP : va_P (gD g) classes [(s0, .inr (1, [.ref b])), (b, .inr (3, [.ref v_13, .int 0, .int ml, .int (nI ((xs ++ li_x 27) ++ li_x 27).length)])), (v_13, .inl (gB g, (sb_cap ((xs ++ li_x 27).length + (li_x 27).length) (sb_cap (xs.length + (li_x 27).length) cp)), .inl f_13))] H := hP
      have hD : va_D A [(s0, .inr (1, [.ref b])), (b, .inr (3, [.ref v_13, .int 0, .int ml, .int (nI ((xs ++ li_x 27) ++ li_x 27).length)])), (v_13, .inl (gB g, (sb_cap ((xs ++ li_x 27).length + (li_x 27).length) (sb_cap (xs.length + (li_x 27).length) cp)), .inl f_13))] := hD
      refine lv_pop hx hb d_S_addBrackets_19 rfl ?_
      refine lv_iinc (v := 2) (lv' := [(2, .int 2), (0, .ref s0), (1, .int t)]) hx hb d_S_addBrackets_20 hl (k := 0) rfl (by first | rfl | decide) (by decide) rfl (fun ls hl => ?_)
      refine lv_goto (tgt := 2) hx hb d_S_addBrackets_23 (by decide) ?_
      refine lv_iload_n hx hb d_S_addBrackets_2 rfl (lv_at hl 0 rfl) ?_
      refine lv_iload_n hx hb d_S_addBrackets_3 rfl (lv_at hl 2 rfl) ?_
      refine pm_callNE hF hN (c_B_levels l t) k_B_levels j_S_85 ⟨Nat.le_of_ble_eq_true rfl, Nat.le_of_ble_eq_true rfl⟩ rfl hl.1 (Nat.le_of_ble_eq_true rfl) d_S_addBrackets_4 ⟨by first | exact Nat.le_of_ble_eq_true rfl | (dsimp only; omega) | omega | exact Nat.zero_le _, by first | exact Nat.le_of_ble_eq_true rfl | (dsimp only; omega) | omega | exact Nat.zero_le _⟩ ?_
      refine lv_icmp_ge (tgt := 26) hx hb d_S_addBrackets_7 (by decide) (fun c_16 => ?_) (fun c_16 => absurd hL c_16)
      have e : z_S_addBrackets xs t = ((xs ++ li_x 27) ++ li_x 27) := by rw [z_S_addBrackets, if_neg c_2, if_neg c_9]
      exact ret_v hx hb hr hlk (hP.sub (ws' := [(s0, .inr (1, [.ref b])), (b, .inr (3, [.ref v_13, .int 0, .int ml, .int (nI ((xs ++ li_x 27) ++ li_x 27).length)])), (v_13, .inl (gB g, (sb_cap ((xs ++ li_x 27).length + (li_x 27).length) (sb_cap (xs.length + (li_x 27).length) cp)), .inl f_13))]) [0, 1, 2] rfl) (hD.sub (ws' := [(s0, .inr (1, [.ref b])), (b, .inr (3, [.ref v_13, .int 0, .int ml, .int (nI ((xs ++ li_x 27) ++ li_x 27).length)])), (v_13, .inl (gB g, (sb_cap ((xs ++ li_x 27).length + (li_x 27).length) (sb_cap (xs.length + (li_x 27).length) cp)), .inl f_13))]) [0, 1, 2] rfl rfl) hS ⟨_, _, _, _, by rw [e], by rw [e]; exact ht_13, by rw [e]; omega⟩ (by first | exact Nat.le_of_ble_eq_true rfl | (dsimp only; omega) | omega) (by first | exact Nat.le_of_ble_eq_true rfl | (dsimp only; omega) | omega) d_S_addBrackets_26
def z_S_addCode (xs : List Nat) (t : Int32) (pj pt : Nat) : List Nat := (if (f_B_levels t) ≤ 0 then (if (f_B_isPrimitive (nI pj)) = 0 then ((z_S_addWithChange (xs ++ [76]) (f_B_name (nI pj)) 46 pt) ++ [59]) else (xs ++ [((li_x 0).getD pj 0)])) else (if (f_B_levels t) ≤ 1 then (if (f_B_isPrimitive (nI pj)) = 0 then ((z_S_addWithChange ((xs ++ [91]) ++ [76]) (f_B_name (nI pj)) 46 pt) ++ [59]) else ((xs ++ [91]) ++ [((li_x 0).getD pj 0)])) else (if (f_B_isPrimitive (nI pj)) = 0 then ((z_S_addWithChange (((xs ++ [91]) ++ [91]) ++ [76]) (f_B_name (nI pj)) 46 pt) ++ [59]) else (((xs ++ [91]) ++ [91]) ++ [((li_x 0).getD pj 0)]))))
set_option maxRecDepth 100000 in
theorem k_S_addCode : ck y_S_addCode b_S_addCode 4 (none) 2 (.instanceMethod y_S_addCode) := ⟨tk_of (List.mem_of_getElem? (i := 217) rfl) rfl, tk_of (List.mem_of_getElem? (i := 216) (by decide +kernel)) rfl, tk_of (List.mem_of_getElem? (i := 37) (by decide +kernel)) rfl, by decide +kernel⟩
theorem j_S_30 : Cond.methodLinkNest R_S 30 y_B_plain R_P ∈ nw_l := nw_of (List.mem_of_getElem? (i := 206) (by decide +kernel)) rfl
theorem j_S_91 : Cond.methodLinkNest R_S 91 y_B_isPrimitive R_P ∈ nw_l := nw_of (List.mem_of_getElem? (i := 274) (by decide +kernel)) rfl
theorem j_S_39 : Cond.methodLinkNest R_S 39 y_B_name R_P ∈ nw_l := nw_of (List.mem_of_getElem? (i := 297) (by decide +kernel)) rfl
theorem j_S_50 : Cond.methodLink R_S 50 y_S_addWithChange ∈ tk := tk_of (List.mem_of_getElem? (i := 326) (by decide +kernel)) rfl
theorem se_S_S_addWithChange : Cond.selects R_S y_S_addWithChange y_S_addWithChange ∈ tk := tk_of (List.mem_of_getElem? (i := 4) (by decide +kernel)) rfl
theorem lr_0 {g : gT} {A : Nat → Prop} {s : State} {H : Heap} (G : Gx g A s H) : vk_R R_S 94 "ZBCSIJFDV" (gK g 0) s := G.2.2.1 0 ("ClassProbe$Script", 94, "ZBCSIJFDV") (by decide +kernel)
set_option maxHeartbeats 4000000 in
set_option maxRecDepth 100000 in
theorem c_S_addCode (g : gT) (l : Launch) (sz : Nat) (s0 b v cp : Nat) (ml : Int32) (a : Nat → Int32) (xs : List Nat) (ht : tx xs cp a) (t : Int32) (pj pt : Nat) (hlen : xs.length + 25 ≤ 70) (hL : f_B_levels t ≤ 2) (hpj : f_B_plain t = nI pj) (hp25 : pj < 25) (hpt : pt < 128) : Mg g l y_S_addCode b_S_addCode 4 (none) 7 171 21 756 [.ref s0, .int t, .int (nI pt)] [(s0, .inr (1, [.ref b])), (b, .inr (3, [.ref v, .int 0, .int ml, .int (nI xs.length)])), (v, .inl (gB g, cp, .inl a))] sz (qV g (fun w1 => ∃ (v' cp' : Nat) (ml' : Int32) (f : Nat → Int32), w1 = [(s0, .inr (1, [.ref b])), (b, .inr (3, [.ref v', .int 0, .int ml', .int (nI (z_S_addCode xs t pj pt).length)])), (v', .inl (gB g, cp', .inl f))] ∧ tx (z_S_addCode xs t pj pt) cp' f ∧ (z_S_addCode xs t pj pt).length ≤ xs.length + 25)) := by
  refine mg_of (by decide) (Nat.le_of_ble_eq_true rfl) ?_
  intro p e s m below meth c ls A hx hb hF hr hlk hnm hA G hP hD hS hl
  have hK := G.2.1
  have hN := G.1
  have hl : lv_has ls 4 [(0, .ref s0), (1, .int t), (2, .int (nI pt))] := hl
  have ht1 := ht.1
  have ht2 := ht.2.1
  have ht3 := ht.2.2.1
  refine lv_iconst (v := 0) hx hb d_S_addCode_0 (by decide) ?_
  refine lv_istore_n (lv' := [(3, .int 0), (0, .ref s0), (1, .int t), (2, .int (nI pt))]) hx hb d_S_addCode_1 rfl hl (by decide) rfl (fun ls hl => ?_)
  refine lv_iload_n hx hb d_S_addCode_2 rfl (lv_at hl 0 rfl) ?_
  refine lv_iload_n hx hb d_S_addCode_3 rfl (lv_at hl 2 rfl) ?_
  refine pm_callNE hF hN (c_B_levels l t) k_B_levels j_S_85 ⟨Nat.le_of_ble_eq_true rfl, Nat.le_of_ble_eq_true rfl⟩ rfl hl.1 (Nat.le_of_ble_eq_true rfl) d_S_addCode_4 ⟨by first | exact Nat.le_of_ble_eq_true rfl | (dsimp only; omega) | omega | exact Nat.zero_le _, by first | exact Nat.le_of_ble_eq_true rfl | (dsimp only; omega) | omega | exact Nat.zero_le _⟩ ?_
  refine lv_icmp_ge (tgt := 26) hx hb d_S_addCode_7 (by decide) (fun c_2 => ?_) (fun c_2 => ?_)
  · skip
    refine lv_iload_n hx hb d_S_addCode_26 rfl (lv_at hl 2 rfl) ?_
    refine pm_callNE hF hN (c_B_plain l t) k_B_plain j_S_30 ⟨Nat.le_of_ble_eq_true rfl, Nat.le_of_ble_eq_true rfl⟩ rfl hl.1 (Nat.le_of_ble_eq_true rfl) d_S_addCode_27 ⟨by first | exact Nat.le_of_ble_eq_true rfl | (dsimp only; omega) | omega | exact Nat.zero_le _, by first | exact Nat.le_of_ble_eq_true rfl | (dsimp only; omega) | omega | exact Nat.zero_le _⟩ ?_
    refine tp_i (show (f_B_plain t) = (nI pj) from hpj) ?_
    refine lv_istore_n (lv' := [(3, .int (nI pj)), (0, .ref s0), (1, .int t), (2, .int (nI pt))]) hx hb d_S_addCode_30 rfl hl (by decide) rfl (fun ls hl => ?_)
    refine lv_iload_n hx hb d_S_addCode_31 rfl (lv_at hl 0 rfl) ?_
    refine pm_callNE hF hN (c_B_isPrimitive l (nI pj)) k_B_isPrimitive j_S_91 ⟨Nat.le_of_ble_eq_true rfl, Nat.le_of_ble_eq_true rfl⟩ rfl hl.1 (Nat.le_of_ble_eq_true rfl) d_S_addCode_32 ⟨by first | exact Nat.le_of_ble_eq_true rfl | (dsimp only; omega) | omega | exact Nat.zero_le _, by first | exact Nat.le_of_ble_eq_true rfl | (dsimp only; omega) | omega | exact Nat.zero_le _⟩ ?_
    refine lv_if_eq (tgt := 53) hx hb d_S_addCode_35 (by decide) (fun c_5 => ?_) (fun c_5 => ?_)
    · skip
      refine lv_aload_n hx hb d_S_addCode_53 rfl (lv_at hl 1 rfl) ?_
      refine va_get (D := gD g) (ci := 1) (v := .ref b) (C := R_S) (T := F_S) (N := 1) hx hb hF.2.2.2.2 in_S hF.2.2.2.1 hK hP 0 rfl rfl 0 (by decide) (hF.2.2.2.2 _ fl_S_12) (fun _ h9 => h9) rfl d_S_addCode_54 ?_
      refine lv_bipush (v := 76) hx hb d_S_addCode_57 (by decide) ?_
      have hga_6 := gc_le (xs.length + 1) cp (by omega)
      have hgb_6 := gs_le (xs.length + 1) cp
      have hgd_6 := sb_cap_gem (xs.length + 1) cp
      have hgc_6 := cap_le (xs.length + 1) cp (by omega) (by omega)
      refine go_r (wr := [(s0, .inr (1, [.ref b]))]) (run_V hF (c_SB_append_C g l _ b v cp ml a xs ht 76 (by decide) (by omega)) k_SB_append_C j_S_88 se_SB_SB_append_C (va_recv hK hP (ci := 3) (q0 := 1) rfl rfl) (cw_down G hP hD hS hA [1, 2] rfl rfl) ⟨Nat.le_of_ble_eq_true rfl, Nat.le_of_ble_eq_true rfl⟩ rfl hl.1 (Nat.le_of_ble_eq_true rfl) d_S_addCode_59 ⟨(by first | exact Nat.le_of_ble_eq_true rfl | (dsimp only; omega) | omega), (by first | exact Nat.le_of_ble_eq_true rfl | (dsimp only; omega) | omega)⟩) hP hD hS hA [1, 2] [0] rfl rfl rfl (by decide) (fun r_7 w1 H locs hp hP hD hS => ?_)
      obtain ⟨er, v_8, f_8, rfl, ht_8⟩ := hp
      rw [er]
      have hge_9 := ht_8.2.2.1
      have hgf_9 : (xs ++ [76]).length = (xs.length + 1) := by rw [List.length_append]; rfl
      have hP : va_P (gD g) classes [(s0, .inr (1, [.ref b])), (b, .inr (3, [.ref v_8, .int 0, .int ml, .int (nI (xs ++ [76]).length)])), (v_8, .inl (gB g, (sb_cap (xs.length + 1) cp), .inl f_8))] H := hP
      have hD : va_D A [(s0, .inr (1, [.ref b])), (b, .inr (3, [.ref v_8, .int 0, .int ml, .int (nI (xs ++ [76]).length)])), (v_8, .inl (gB g, (sb_cap (xs.length + 1) cp), .inl f_8))] := hD
      refine lv_pop hx hb d_S_addCode_62 rfl ?_
      refine lv_aload_n hx hb d_S_addCode_63 rfl (lv_at hl 1 rfl) ?_
      refine lv_iload_n hx hb d_S_addCode_64 rfl (lv_at hl 0 rfl) ?_
      refine go_r (wr := [(s0, .inr (1, [.ref b])), (b, .inr (3, [.ref v_8, .int 0, .int ml, .int (nI (xs ++ [76]).length)])), (v_8, .inl (gB g, (sb_cap (xs.length + 1) cp), .inl f_8))]) (run_SN hF G.1 (c_B_name g l _ (nI pj)) k_B_name j_S_39 (cw_down G hP hD hS hA [] rfl rfl) ⟨Nat.le_of_ble_eq_true rfl, Nat.le_of_ble_eq_true rfl⟩ rfl hl.1 (Nat.le_of_ble_eq_true rfl) d_S_addCode_65 ⟨(by first | exact Nat.le_of_ble_eq_true rfl | (dsimp only; omega) | omega), (by first | exact Nat.le_of_ble_eq_true rfl | (dsimp only; omega) | omega)⟩) hP hD hS hA [] [0, 1, 2] rfl rfl rfl (by decide) (fun r_10 w1 H locs hp hP hD hS => ?_)
      obtain ⟨er, rfl⟩ := hp
      rw [er]
      have hP : va_P (gD g) classes [(s0, .inr (1, [.ref b])), (b, .inr (3, [.ref v_8, .int 0, .int ml, .int (nI (xs ++ [76]).length)])), (v_8, .inl (gB g, (sb_cap (xs.length + 1) cp), .inl f_8))] H := hP
      have hD : va_D A [(s0, .inr (1, [.ref b])), (b, .inr (3, [.ref v_8, .int 0, .int ml, .int (nI (xs ++ [76]).length)])), (v_8, .inl (gB g, (sb_cap (xs.length + 1) cp), .inl f_8))] := hD
      refine lv_bipush (v := 46) hx hb d_S_addCode_68 (by decide) ?_
      refine lv_iload_n hx hb d_S_addCode_70 rfl (lv_at hl 3 rfl) ?_
      refine go_v (wr := []) (run_V hF (c_S_addWithChange g l _ s0 b v_8 (sb_cap (xs.length + 1) cp) ml f_8 (xs ++ [76]) ht_8 (f_B_name (nI pj)) 46 pt (by omega) (nm_lt (nI pj)) hpt) k_S_addWithChange j_S_50 se_S_S_addWithChange (va_recv hK hP (ci := 1) (q0 := 0) rfl rfl) (cw_down G hP hD hS hA [0, 1, 2] rfl rfl) ⟨Nat.le_of_ble_eq_true rfl, Nat.le_of_ble_eq_true rfl⟩ rfl hl.1 (Nat.le_of_ble_eq_true rfl) d_S_addCode_71 ⟨(by first | exact Nat.le_of_ble_eq_true rfl | (dsimp only; omega) | omega), (by first | exact Nat.le_of_ble_eq_true rfl | (dsimp only; omega) | omega)⟩) hP hD hS hA [0, 1, 2] [] rfl rfl rfl (by decide) (fun w1 H locs hp hP hD hS => ?_)
      obtain ⟨v_12, cp_12, ml_12, f_12, rfl, ht_12, hn_12⟩ := hp
      have hka_12 := ht_12.2.1
      have hkb_12 := ht_12.2.2.1
      have hP : va_P (gD g) classes [(s0, .inr (1, [.ref b])), (b, .inr (3, [.ref v_12, .int 0, .int ml_12, .int (nI (z_S_addWithChange (xs ++ [76]) (f_B_name (nI pj)) 46 pt).length)])), (v_12, .inl (gB g, cp_12, .inl f_12))] H := hP
      have hD : va_D A [(s0, .inr (1, [.ref b])), (b, .inr (3, [.ref v_12, .int 0, .int ml_12, .int (nI (z_S_addWithChange (xs ++ [76]) (f_B_name (nI pj)) 46 pt).length)])), (v_12, .inl (gB g, cp_12, .inl f_12))] := hD
      refine lv_aload_n hx hb d_S_addCode_74 rfl (lv_at hl 1 rfl) ?_
      refine va_get (D := gD g) (ci := 1) (v := .ref b) (C := R_S) (T := F_S) (N := 1) hx hb hF.2.2.2.2 in_S hF.2.2.2.1 hK hP 0 rfl rfl 0 (by decide) (hF.2.2.2.2 _ fl_S_12) (fun _ h9 => h9) rfl d_S_addCode_75 ?_
      refine lv_bipush (v := 59) hx hb d_S_addCode_78 (by decide) ?_
      have hga_13 := gc_le ((z_S_addWithChange (xs ++ [76]) (f_B_name (nI pj)) 46 pt).length + 1) cp_12 (by omega)
      have hgb_13 := gs_le ((z_S_addWithChange (xs ++ [76]) (f_B_name (nI pj)) 46 pt).length + 1) cp_12
      have hgd_13 := sb_cap_gem ((z_S_addWithChange (xs ++ [76]) (f_B_name (nI pj)) 46 pt).length + 1) cp_12
      have hgc_13 := cap_le ((z_S_addWithChange (xs ++ [76]) (f_B_name (nI pj)) 46 pt).length + 1) cp_12 (by omega) (by omega)
      refine go_r (wr := [(s0, .inr (1, [.ref b]))]) (run_V hF (c_SB_append_C g l _ b v_12 cp_12 ml_12 f_12 (z_S_addWithChange (xs ++ [76]) (f_B_name (nI pj)) 46 pt) ht_12 59 (by decide) (by omega)) k_SB_append_C j_S_88 se_SB_SB_append_C (va_recv hK hP (ci := 3) (q0 := 1) rfl rfl) (cw_down G hP hD hS hA [1, 2] rfl rfl) ⟨Nat.le_of_ble_eq_true rfl, Nat.le_of_ble_eq_true rfl⟩ rfl hl.1 (Nat.le_of_ble_eq_true rfl) d_S_addCode_80 ⟨(by first | exact Nat.le_of_ble_eq_true rfl | (dsimp only; omega) | omega), (by first | exact Nat.le_of_ble_eq_true rfl | (dsimp only; omega) | omega)⟩) hP hD hS hA [1, 2] [0] rfl rfl rfl (by decide) (fun r_14 w1 H locs hp hP hD hS => ?_)
      obtain ⟨er, v_15, f_15, rfl, ht_15⟩ := hp
      rw [er]
      have hge_16 := ht_15.2.2.1
      have hgf_16 : ((z_S_addWithChange (xs ++ [76]) (f_B_name (nI pj)) 46 pt) ++ [59]).length = ((z_S_addWithChange (xs ++ [76]) (f_B_name (nI pj)) 46 pt).length + 1) := by rw [List.length_append]; rfl
      have hP : va_P (gD g) classes [(s0, .inr (1, [.ref b])), (b, .inr (3, [.ref v_15, .int 0, .int ml_12, .int (nI ((z_S_addWithChange (xs ++ [76]) (f_B_name (nI pj)) 46 pt) ++ [59]).length)])), (v_15, .inl (gB g, (sb_cap ((z_S_addWithChange (xs ++ [76]) (f_B_name (nI pj)) 46 pt).length + 1) cp_12), .inl f_15))] H := hP
      have hD : va_D A [(s0, .inr (1, [.ref b])), (b, .inr (3, [.ref v_15, .int 0, .int ml_12, .int (nI ((z_S_addWithChange (xs ++ [76]) (f_B_name (nI pj)) 46 pt) ++ [59]).length)])), (v_15, .inl (gB g, (sb_cap ((z_S_addWithChange (xs ++ [76]) (f_B_name (nI pj)) 46 pt).length + 1) cp_12), .inl f_15))] := hD
      refine lv_pop hx hb d_S_addCode_83 rfl ?_
      have e : z_S_addCode xs t pj pt = ((z_S_addWithChange (xs ++ [76]) (f_B_name (nI pj)) 46 pt) ++ [59]) := by rw [z_S_addCode, if_pos c_2, if_pos c_5]
      exact ret_v hx hb hr hlk (hP.sub (ws' := [(s0, .inr (1, [.ref b])), (b, .inr (3, [.ref v_15, .int 0, .int ml_12, .int (nI ((z_S_addWithChange (xs ++ [76]) (f_B_name (nI pj)) 46 pt) ++ [59]).length)])), (v_15, .inl (gB g, (sb_cap ((z_S_addWithChange (xs ++ [76]) (f_B_name (nI pj)) 46 pt).length + 1) cp_12), .inl f_15))]) [0, 1, 2] rfl) (hD.sub (ws' := [(s0, .inr (1, [.ref b])), (b, .inr (3, [.ref v_15, .int 0, .int ml_12, .int (nI ((z_S_addWithChange (xs ++ [76]) (f_B_name (nI pj)) 46 pt) ++ [59]).length)])), (v_15, .inl (gB g, (sb_cap ((z_S_addWithChange (xs ++ [76]) (f_B_name (nI pj)) 46 pt).length + 1) cp_12), .inl f_15))]) [0, 1, 2] rfl rfl) hS ⟨_, _, _, _, by rw [e], by rw [e]; exact ht_15, by rw [e]; omega⟩ (by first | exact Nat.le_of_ble_eq_true rfl | (dsimp only; omega) | omega) (by first | exact Nat.le_of_ble_eq_true rfl | (dsimp only; omega) | omega) d_S_addCode_84
    · skip
      refine lv_aload_n hx hb d_S_addCode_38 rfl (lv_at hl 1 rfl) ?_
      refine va_get (D := gD g) (ci := 1) (v := .ref b) (C := R_S) (T := F_S) (N := 1) hx hb hF.2.2.2.2 in_S hF.2.2.2.1 hK hP 0 rfl rfl 0 (by decide) (hF.2.2.2.2 _ fl_S_12) (fun _ h9 => h9) rfl d_S_addCode_39 ?_
      refine va_ldcS hx hb hF.2.2.2.1 (lr_0 G) d_S_addCode_42 ?_
      refine lv_iload_n hx hb d_S_addCode_44 rfl (lv_at hl 0 rfl) ?_
      refine go_i (wr := [(s0, .inr (1, [.ref b])), (b, .inr (3, [.ref v, .int 0, .int ml, .int (nI xs.length)])), (v, .inl (gB g, cp, .inl a))]) (run_V hF (c_St_charAt g l _ 0 (by decide) pj (pr_lt hp25 c_5)) k_St_charAt j_S_96 se_St_St_charAt (va_Orecv (G.2.2.2.1 0 (by decide)).1 hS) (cw_down G hP hD hS hA [] rfl rfl) ⟨Nat.le_of_ble_eq_true rfl, Nat.le_of_ble_eq_true rfl⟩ rfl hl.1 (Nat.le_of_ble_eq_true rfl) d_S_addCode_45 ⟨(by first | exact Nat.le_of_ble_eq_true rfl | (dsimp only; omega) | omega), (by first | exact Nat.le_of_ble_eq_true rfl | (dsimp only; omega) | omega)⟩) hP hD hS hA [] [0, 1, 2] rfl rfl rfl (by decide) (fun r_17 w1 H locs hp hP hD hS => ?_)
      obtain ⟨rfl, rfl⟩ := hp
      have hP : va_P (gD g) classes [(s0, .inr (1, [.ref b])), (b, .inr (3, [.ref v, .int 0, .int ml, .int (nI xs.length)])), (v, .inl (gB g, cp, .inl a))] H := hP
      have hD : va_D A [(s0, .inr (1, [.ref b])), (b, .inr (3, [.ref v, .int 0, .int ml, .int (nI xs.length)])), (v, .inl (gB g, cp, .inl a))] := hD
      have hga_18 := gc_le (xs.length + 1) cp (by omega)
      have hgb_18 := gs_le (xs.length + 1) cp
      have hgd_18 := sb_cap_gem (xs.length + 1) cp
      have hgc_18 := cap_le (xs.length + 1) cp (by omega) (by omega)
      refine go_r (wr := [(s0, .inr (1, [.ref b]))]) (run_V hF (c_SB_append_C g l _ b v cp ml a xs ht ((li_x 0).getD pj 0) (li_ch (by decide) _) (by omega)) k_SB_append_C j_S_88 se_SB_SB_append_C (va_recv hK hP (ci := 3) (q0 := 1) rfl rfl) (cw_down G hP hD hS hA [1, 2] rfl rfl) ⟨Nat.le_of_ble_eq_true rfl, Nat.le_of_ble_eq_true rfl⟩ rfl hl.1 (Nat.le_of_ble_eq_true rfl) d_S_addCode_48 ⟨(by first | exact Nat.le_of_ble_eq_true rfl | (dsimp only; omega) | omega), (by first | exact Nat.le_of_ble_eq_true rfl | (dsimp only; omega) | omega)⟩) hP hD hS hA [1, 2] [0] rfl rfl rfl (by decide) (fun r_19 w1 H locs hp hP hD hS => ?_)
      obtain ⟨er, v_20, f_20, rfl, ht_20⟩ := hp
      rw [er]
      have hge_21 := ht_20.2.2.1
      have hgf_21 : (xs ++ [((li_x 0).getD pj 0)]).length = (xs.length + 1) := by rw [List.length_append]; rfl
      have hP : va_P (gD g) classes [(s0, .inr (1, [.ref b])), (b, .inr (3, [.ref v_20, .int 0, .int ml, .int (nI (xs ++ [((li_x 0).getD pj 0)]).length)])), (v_20, .inl (gB g, (sb_cap (xs.length + 1) cp), .inl f_20))] H := hP
      have hD : va_D A [(s0, .inr (1, [.ref b])), (b, .inr (3, [.ref v_20, .int 0, .int ml, .int (nI (xs ++ [((li_x 0).getD pj 0)]).length)])), (v_20, .inl (gB g, (sb_cap (xs.length + 1) cp), .inl f_20))] := hD
      refine lv_pop hx hb d_S_addCode_51 rfl ?_
      have e : z_S_addCode xs t pj pt = (xs ++ [((li_x 0).getD pj 0)]) := by rw [z_S_addCode, if_pos c_2, if_neg c_5]
      exact ret_v hx hb hr hlk (hP.sub (ws' := [(s0, .inr (1, [.ref b])), (b, .inr (3, [.ref v_20, .int 0, .int ml, .int (nI (xs ++ [((li_x 0).getD pj 0)]).length)])), (v_20, .inl (gB g, (sb_cap (xs.length + 1) cp), .inl f_20))]) [0, 1, 2] rfl) (hD.sub (ws' := [(s0, .inr (1, [.ref b])), (b, .inr (3, [.ref v_20, .int 0, .int ml, .int (nI (xs ++ [((li_x 0).getD pj 0)]).length)])), (v_20, .inl (gB g, (sb_cap (xs.length + 1) cp), .inl f_20))]) [0, 1, 2] rfl rfl) hS ⟨_, _, _, _, by rw [e], by rw [e]; exact ht_20, by rw [e]; omega⟩ (by first | exact Nat.le_of_ble_eq_true rfl | (dsimp only; omega) | omega) (by first | exact Nat.le_of_ble_eq_true rfl | (dsimp only; omega) | omega) d_S_addCode_52
  · skip
    refine lv_aload_n hx hb d_S_addCode_10 rfl (lv_at hl 1 rfl) ?_
    refine va_get (D := gD g) (ci := 1) (v := .ref b) (C := R_S) (T := F_S) (N := 1) hx hb hF.2.2.2.2 in_S hF.2.2.2.1 hK hP 0 rfl rfl 0 (by decide) (hF.2.2.2.2 _ fl_S_12) (fun _ h9 => h9) rfl d_S_addCode_11 ?_
    refine lv_bipush (v := 91) hx hb d_S_addCode_14 (by decide) ?_
    have hga_22 := gc_le (xs.length + 1) cp (by omega)
    have hgb_22 := gs_le (xs.length + 1) cp
    have hgd_22 := sb_cap_gem (xs.length + 1) cp
    have hgc_22 := cap_le (xs.length + 1) cp (by omega) (by omega)
    refine go_r (wr := [(s0, .inr (1, [.ref b]))]) (run_V hF (c_SB_append_C g l _ b v cp ml a xs ht 91 (by decide) (by omega)) k_SB_append_C j_S_88 se_SB_SB_append_C (va_recv hK hP (ci := 3) (q0 := 1) rfl rfl) (cw_down G hP hD hS hA [1, 2] rfl rfl) ⟨Nat.le_of_ble_eq_true rfl, Nat.le_of_ble_eq_true rfl⟩ rfl hl.1 (Nat.le_of_ble_eq_true rfl) d_S_addCode_16 ⟨(by first | exact Nat.le_of_ble_eq_true rfl | (dsimp only; omega) | omega), (by first | exact Nat.le_of_ble_eq_true rfl | (dsimp only; omega) | omega)⟩) hP hD hS hA [1, 2] [0] rfl rfl rfl (by decide) (fun r_23 w1 H locs hp hP hD hS => ?_)
    obtain ⟨er, v_24, f_24, rfl, ht_24⟩ := hp
    rw [er]
    have hge_25 := ht_24.2.2.1
    have hgf_25 : (xs ++ [91]).length = (xs.length + 1) := by rw [List.length_append]; rfl
    have hP : va_P (gD g) classes [(s0, .inr (1, [.ref b])), (b, .inr (3, [.ref v_24, .int 0, .int ml, .int (nI (xs ++ [91]).length)])), (v_24, .inl (gB g, (sb_cap (xs.length + 1) cp), .inl f_24))] H := hP
    have hD : va_D A [(s0, .inr (1, [.ref b])), (b, .inr (3, [.ref v_24, .int 0, .int ml, .int (nI (xs ++ [91]).length)])), (v_24, .inl (gB g, (sb_cap (xs.length + 1) cp), .inl f_24))] := hD
    refine lv_pop hx hb d_S_addCode_19 rfl ?_
    refine lv_iinc (v := 1) (lv' := [(3, .int 1), (0, .ref s0), (1, .int t), (2, .int (nI pt))]) hx hb d_S_addCode_20 hl (k := 0) rfl (by first | rfl | decide) (by decide) rfl (fun ls hl => ?_)
    refine lv_goto (tgt := 2) hx hb d_S_addCode_23 (by decide) ?_
    refine lv_iload_n hx hb d_S_addCode_2 rfl (lv_at hl 0 rfl) ?_
    refine lv_iload_n hx hb d_S_addCode_3 rfl (lv_at hl 2 rfl) ?_
    refine pm_callNE hF hN (c_B_levels l t) k_B_levels j_S_85 ⟨Nat.le_of_ble_eq_true rfl, Nat.le_of_ble_eq_true rfl⟩ rfl hl.1 (Nat.le_of_ble_eq_true rfl) d_S_addCode_4 ⟨by first | exact Nat.le_of_ble_eq_true rfl | (dsimp only; omega) | omega | exact Nat.zero_le _, by first | exact Nat.le_of_ble_eq_true rfl | (dsimp only; omega) | omega | exact Nat.zero_le _⟩ ?_
    refine lv_icmp_ge (tgt := 26) hx hb d_S_addCode_7 (by decide) (fun c_27 => ?_) (fun c_27 => ?_)
    · skip
      refine lv_iload_n hx hb d_S_addCode_26 rfl (lv_at hl 2 rfl) ?_
      refine pm_callNE hF hN (c_B_plain l t) k_B_plain j_S_30 ⟨Nat.le_of_ble_eq_true rfl, Nat.le_of_ble_eq_true rfl⟩ rfl hl.1 (Nat.le_of_ble_eq_true rfl) d_S_addCode_27 ⟨by first | exact Nat.le_of_ble_eq_true rfl | (dsimp only; omega) | omega | exact Nat.zero_le _, by first | exact Nat.le_of_ble_eq_true rfl | (dsimp only; omega) | omega | exact Nat.zero_le _⟩ ?_
      refine tp_i (show (f_B_plain t) = (nI pj) from hpj) ?_
      refine lv_istore_n (lv' := [(3, .int (nI pj)), (0, .ref s0), (1, .int t), (2, .int (nI pt))]) hx hb d_S_addCode_30 rfl hl (by decide) rfl (fun ls hl => ?_)
      refine lv_iload_n hx hb d_S_addCode_31 rfl (lv_at hl 0 rfl) ?_
      refine pm_callNE hF hN (c_B_isPrimitive l (nI pj)) k_B_isPrimitive j_S_91 ⟨Nat.le_of_ble_eq_true rfl, Nat.le_of_ble_eq_true rfl⟩ rfl hl.1 (Nat.le_of_ble_eq_true rfl) d_S_addCode_32 ⟨by first | exact Nat.le_of_ble_eq_true rfl | (dsimp only; omega) | omega | exact Nat.zero_le _, by first | exact Nat.le_of_ble_eq_true rfl | (dsimp only; omega) | omega | exact Nat.zero_le _⟩ ?_
      refine lv_if_eq (tgt := 53) hx hb d_S_addCode_35 (by decide) (fun c_30 => ?_) (fun c_30 => ?_)
      · skip
        refine lv_aload_n hx hb d_S_addCode_53 rfl (lv_at hl 1 rfl) ?_
        refine va_get (D := gD g) (ci := 1) (v := .ref b) (C := R_S) (T := F_S) (N := 1) hx hb hF.2.2.2.2 in_S hF.2.2.2.1 hK hP 0 rfl rfl 0 (by decide) (hF.2.2.2.2 _ fl_S_12) (fun _ h9 => h9) rfl d_S_addCode_54 ?_
        refine lv_bipush (v := 76) hx hb d_S_addCode_57 (by decide) ?_
        have hga_31 := gc_le ((xs ++ [91]).length + 1) (sb_cap (xs.length + 1) cp) (by omega)
        have hgb_31 := gs_le ((xs ++ [91]).length + 1) (sb_cap (xs.length + 1) cp)
        have hgd_31 := sb_cap_gem ((xs ++ [91]).length + 1) (sb_cap (xs.length + 1) cp)
        have hgc_31 := cap_le ((xs ++ [91]).length + 1) (sb_cap (xs.length + 1) cp) (by omega) (by omega)
        refine go_r (wr := [(s0, .inr (1, [.ref b]))]) (run_V hF (c_SB_append_C g l _ b v_24 (sb_cap (xs.length + 1) cp) ml f_24 (xs ++ [91]) ht_24 76 (by decide) (by omega)) k_SB_append_C j_S_88 se_SB_SB_append_C (va_recv hK hP (ci := 3) (q0 := 1) rfl rfl) (cw_down G hP hD hS hA [1, 2] rfl rfl) ⟨Nat.le_of_ble_eq_true rfl, Nat.le_of_ble_eq_true rfl⟩ rfl hl.1 (Nat.le_of_ble_eq_true rfl) d_S_addCode_59 ⟨(by first | exact Nat.le_of_ble_eq_true rfl | (dsimp only; omega) | omega), (by first | exact Nat.le_of_ble_eq_true rfl | (dsimp only; omega) | omega)⟩) hP hD hS hA [1, 2] [0] rfl rfl rfl (by decide) (fun r_32 w1 H locs hp hP hD hS => ?_)
        obtain ⟨er, v_33, f_33, rfl, ht_33⟩ := hp
        rw [er]
        have hge_34 := ht_33.2.2.1
        have hgf_34 : ((xs ++ [91]) ++ [76]).length = ((xs ++ [91]).length + 1) := by rw [List.length_append]; rfl
        have hP : va_P (gD g) classes [(s0, .inr (1, [.ref b])), (b, .inr (3, [.ref v_33, .int 0, .int ml, .int (nI ((xs ++ [91]) ++ [76]).length)])), (v_33, .inl (gB g, (sb_cap ((xs ++ [91]).length + 1) (sb_cap (xs.length + 1) cp)), .inl f_33))] H := hP
        have hD : va_D A [(s0, .inr (1, [.ref b])), (b, .inr (3, [.ref v_33, .int 0, .int ml, .int (nI ((xs ++ [91]) ++ [76]).length)])), (v_33, .inl (gB g, (sb_cap ((xs ++ [91]).length + 1) (sb_cap (xs.length + 1) cp)), .inl f_33))] := hD
        refine lv_pop hx hb d_S_addCode_62 rfl ?_
        refine lv_aload_n hx hb d_S_addCode_63 rfl (lv_at hl 1 rfl) ?_
        refine lv_iload_n hx hb d_S_addCode_64 rfl (lv_at hl 0 rfl) ?_
        refine go_r (wr := [(s0, .inr (1, [.ref b])), (b, .inr (3, [.ref v_33, .int 0, .int ml, .int (nI ((xs ++ [91]) ++ [76]).length)])), (v_33, .inl (gB g, (sb_cap ((xs ++ [91]).length + 1) (sb_cap (xs.length + 1) cp)), .inl f_33))]) (run_SN hF G.1 (c_B_name g l _ (nI pj)) k_B_name j_S_39 (cw_down G hP hD hS hA [] rfl rfl) ⟨Nat.le_of_ble_eq_true rfl, Nat.le_of_ble_eq_true rfl⟩ rfl hl.1 (Nat.le_of_ble_eq_true rfl) d_S_addCode_65 ⟨(by first | exact Nat.le_of_ble_eq_true rfl | (dsimp only; omega) | omega), (by first | exact Nat.le_of_ble_eq_true rfl | (dsimp only; omega) | omega)⟩) hP hD hS hA [] [0, 1, 2] rfl rfl rfl (by decide) (fun r_35 w1 H locs hp hP hD hS => ?_)
        obtain ⟨er, rfl⟩ := hp
        rw [er]
        have hP : va_P (gD g) classes [(s0, .inr (1, [.ref b])), (b, .inr (3, [.ref v_33, .int 0, .int ml, .int (nI ((xs ++ [91]) ++ [76]).length)])), (v_33, .inl (gB g, (sb_cap ((xs ++ [91]).length + 1) (sb_cap (xs.length + 1) cp)), .inl f_33))] H := hP
        have hD : va_D A [(s0, .inr (1, [.ref b])), (b, .inr (3, [.ref v_33, .int 0, .int ml, .int (nI ((xs ++ [91]) ++ [76]).length)])), (v_33, .inl (gB g, (sb_cap ((xs ++ [91]).length + 1) (sb_cap (xs.length + 1) cp)), .inl f_33))] := hD
        refine lv_bipush (v := 46) hx hb d_S_addCode_68 (by decide) ?_
        refine lv_iload_n hx hb d_S_addCode_70 rfl (lv_at hl 3 rfl) ?_
        refine go_v (wr := []) (run_V hF (c_S_addWithChange g l _ s0 b v_33 (sb_cap ((xs ++ [91]).length + 1) (sb_cap (xs.length + 1) cp)) ml f_33 ((xs ++ [91]) ++ [76]) ht_33 (f_B_name (nI pj)) 46 pt (by omega) (nm_lt (nI pj)) hpt) k_S_addWithChange j_S_50 se_S_S_addWithChange (va_recv hK hP (ci := 1) (q0 := 0) rfl rfl) (cw_down G hP hD hS hA [0, 1, 2] rfl rfl) ⟨Nat.le_of_ble_eq_true rfl, Nat.le_of_ble_eq_true rfl⟩ rfl hl.1 (Nat.le_of_ble_eq_true rfl) d_S_addCode_71 ⟨(by first | exact Nat.le_of_ble_eq_true rfl | (dsimp only; omega) | omega), (by first | exact Nat.le_of_ble_eq_true rfl | (dsimp only; omega) | omega)⟩) hP hD hS hA [0, 1, 2] [] rfl rfl rfl (by decide) (fun w1 H locs hp hP hD hS => ?_)
        obtain ⟨v_37, cp_37, ml_37, f_37, rfl, ht_37, hn_37⟩ := hp
        have hka_37 := ht_37.2.1
        have hkb_37 := ht_37.2.2.1
        have hP : va_P (gD g) classes [(s0, .inr (1, [.ref b])), (b, .inr (3, [.ref v_37, .int 0, .int ml_37, .int (nI (z_S_addWithChange ((xs ++ [91]) ++ [76]) (f_B_name (nI pj)) 46 pt).length)])), (v_37, .inl (gB g, cp_37, .inl f_37))] H := hP
        have hD : va_D A [(s0, .inr (1, [.ref b])), (b, .inr (3, [.ref v_37, .int 0, .int ml_37, .int (nI (z_S_addWithChange ((xs ++ [91]) ++ [76]) (f_B_name (nI pj)) 46 pt).length)])), (v_37, .inl (gB g, cp_37, .inl f_37))] := hD
        refine lv_aload_n hx hb d_S_addCode_74 rfl (lv_at hl 1 rfl) ?_
        refine va_get (D := gD g) (ci := 1) (v := .ref b) (C := R_S) (T := F_S) (N := 1) hx hb hF.2.2.2.2 in_S hF.2.2.2.1 hK hP 0 rfl rfl 0 (by decide) (hF.2.2.2.2 _ fl_S_12) (fun _ h9 => h9) rfl d_S_addCode_75 ?_
        refine lv_bipush (v := 59) hx hb d_S_addCode_78 (by decide) ?_
        have hga_38 := gc_le ((z_S_addWithChange ((xs ++ [91]) ++ [76]) (f_B_name (nI pj)) 46 pt).length + 1) cp_37 (by omega)
        have hgb_38 := gs_le ((z_S_addWithChange ((xs ++ [91]) ++ [76]) (f_B_name (nI pj)) 46 pt).length + 1) cp_37
        have hgd_38 := sb_cap_gem ((z_S_addWithChange ((xs ++ [91]) ++ [76]) (f_B_name (nI pj)) 46 pt).length + 1) cp_37
        have hgc_38 := cap_le ((z_S_addWithChange ((xs ++ [91]) ++ [76]) (f_B_name (nI pj)) 46 pt).length + 1) cp_37 (by omega) (by omega)
        refine go_r (wr := [(s0, .inr (1, [.ref b]))]) (run_V hF (c_SB_append_C g l _ b v_37 cp_37 ml_37 f_37 (z_S_addWithChange ((xs ++ [91]) ++ [76]) (f_B_name (nI pj)) 46 pt) ht_37 59 (by decide) (by omega)) k_SB_append_C j_S_88 se_SB_SB_append_C (va_recv hK hP (ci := 3) (q0 := 1) rfl rfl) (cw_down G hP hD hS hA [1, 2] rfl rfl) ⟨Nat.le_of_ble_eq_true rfl, Nat.le_of_ble_eq_true rfl⟩ rfl hl.1 (Nat.le_of_ble_eq_true rfl) d_S_addCode_80 ⟨(by first | exact Nat.le_of_ble_eq_true rfl | (dsimp only; omega) | omega), (by first | exact Nat.le_of_ble_eq_true rfl | (dsimp only; omega) | omega)⟩) hP hD hS hA [1, 2] [0] rfl rfl rfl (by decide) (fun r_39 w1 H locs hp hP hD hS => ?_)
        obtain ⟨er, v_40, f_40, rfl, ht_40⟩ := hp
        rw [er]
        have hge_41 := ht_40.2.2.1
        have hgf_41 : ((z_S_addWithChange ((xs ++ [91]) ++ [76]) (f_B_name (nI pj)) 46 pt) ++ [59]).length = ((z_S_addWithChange ((xs ++ [91]) ++ [76]) (f_B_name (nI pj)) 46 pt).length + 1) := by rw [List.length_append]; rfl
        have hP : va_P (gD g) classes [(s0, .inr (1, [.ref b])), (b, .inr (3, [.ref v_40, .int 0, .int ml_37, .int (nI ((z_S_addWithChange ((xs ++ [91]) ++ [76]) (f_B_name (nI pj)) 46 pt) ++ [59]).length)])), (v_40, .inl (gB g, (sb_cap ((z_S_addWithChange ((xs ++ [91]) ++ [76]) (f_B_name (nI pj)) 46 pt).length + 1) cp_37), .inl f_40))] H := hP
        have hD : va_D A [(s0, .inr (1, [.ref b])), (b, .inr (3, [.ref v_40, .int 0, .int ml_37, .int (nI ((z_S_addWithChange ((xs ++ [91]) ++ [76]) (f_B_name (nI pj)) 46 pt) ++ [59]).length)])), (v_40, .inl (gB g, (sb_cap ((z_S_addWithChange ((xs ++ [91]) ++ [76]) (f_B_name (nI pj)) 46 pt).length + 1) cp_37), .inl f_40))] := hD
        refine lv_pop hx hb d_S_addCode_83 rfl ?_
        have e : z_S_addCode xs t pj pt = ((z_S_addWithChange ((xs ++ [91]) ++ [76]) (f_B_name (nI pj)) 46 pt) ++ [59]) := by rw [z_S_addCode, if_neg c_2, if_pos c_27, if_pos c_30]
        exact ret_v hx hb hr hlk (hP.sub (ws' := [(s0, .inr (1, [.ref b])), (b, .inr (3, [.ref v_40, .int 0, .int ml_37, .int (nI ((z_S_addWithChange ((xs ++ [91]) ++ [76]) (f_B_name (nI pj)) 46 pt) ++ [59]).length)])), (v_40, .inl (gB g, (sb_cap ((z_S_addWithChange ((xs ++ [91]) ++ [76]) (f_B_name (nI pj)) 46 pt).length + 1) cp_37), .inl f_40))]) [0, 1, 2] rfl) (hD.sub (ws' := [(s0, .inr (1, [.ref b])), (b, .inr (3, [.ref v_40, .int 0, .int ml_37, .int (nI ((z_S_addWithChange ((xs ++ [91]) ++ [76]) (f_B_name (nI pj)) 46 pt) ++ [59]).length)])), (v_40, .inl (gB g, (sb_cap ((z_S_addWithChange ((xs ++ [91]) ++ [76]) (f_B_name (nI pj)) 46 pt).length + 1) cp_37), .inl f_40))]) [0, 1, 2] rfl rfl) hS ⟨_, _, _, _, by rw [e], by rw [e]; exact ht_40, by rw [e]; omega⟩ (by first | exact Nat.le_of_ble_eq_true rfl | (dsimp only; omega) | omega) (by first | exact Nat.le_of_ble_eq_true rfl | (dsimp only; omega) | omega) d_S_addCode_84
      · skip
        refine lv_aload_n hx hb d_S_addCode_38 rfl (lv_at hl 1 rfl) ?_
        refine va_get (D := gD g) (ci := 1) (v := .ref b) (C := R_S) (T := F_S) (N := 1) hx hb hF.2.2.2.2 in_S hF.2.2.2.1 hK hP 0 rfl rfl 0 (by decide) (hF.2.2.2.2 _ fl_S_12) (fun _ h9 => h9) rfl d_S_addCode_39 ?_
        refine va_ldcS hx hb hF.2.2.2.1 (lr_0 G) d_S_addCode_42 ?_
        refine lv_iload_n hx hb d_S_addCode_44 rfl (lv_at hl 0 rfl) ?_
        refine go_i (wr := [(s0, .inr (1, [.ref b])), (b, .inr (3, [.ref v_24, .int 0, .int ml, .int (nI (xs ++ [91]).length)])), (v_24, .inl (gB g, (sb_cap (xs.length + 1) cp), .inl f_24))]) (run_V hF (c_St_charAt g l _ 0 (by decide) pj (pr_lt hp25 c_30)) k_St_charAt j_S_96 se_St_St_charAt (va_Orecv (G.2.2.2.1 0 (by decide)).1 hS) (cw_down G hP hD hS hA [] rfl rfl) ⟨Nat.le_of_ble_eq_true rfl, Nat.le_of_ble_eq_true rfl⟩ rfl hl.1 (Nat.le_of_ble_eq_true rfl) d_S_addCode_45 ⟨(by first | exact Nat.le_of_ble_eq_true rfl | (dsimp only; omega) | omega), (by first | exact Nat.le_of_ble_eq_true rfl | (dsimp only; omega) | omega)⟩) hP hD hS hA [] [0, 1, 2] rfl rfl rfl (by decide) (fun r_42 w1 H locs hp hP hD hS => ?_)
        obtain ⟨rfl, rfl⟩ := hp
        have hP : va_P (gD g) classes [(s0, .inr (1, [.ref b])), (b, .inr (3, [.ref v_24, .int 0, .int ml, .int (nI (xs ++ [91]).length)])), (v_24, .inl (gB g, (sb_cap (xs.length + 1) cp), .inl f_24))] H := hP
        have hD : va_D A [(s0, .inr (1, [.ref b])), (b, .inr (3, [.ref v_24, .int 0, .int ml, .int (nI (xs ++ [91]).length)])), (v_24, .inl (gB g, (sb_cap (xs.length + 1) cp), .inl f_24))] := hD
        have hga_43 := gc_le ((xs ++ [91]).length + 1) (sb_cap (xs.length + 1) cp) (by omega)
        have hgb_43 := gs_le ((xs ++ [91]).length + 1) (sb_cap (xs.length + 1) cp)
        have hgd_43 := sb_cap_gem ((xs ++ [91]).length + 1) (sb_cap (xs.length + 1) cp)
        have hgc_43 := cap_le ((xs ++ [91]).length + 1) (sb_cap (xs.length + 1) cp) (by omega) (by omega)
        refine go_r (wr := [(s0, .inr (1, [.ref b]))]) (run_V hF (c_SB_append_C g l _ b v_24 (sb_cap (xs.length + 1) cp) ml f_24 (xs ++ [91]) ht_24 ((li_x 0).getD pj 0) (li_ch (by decide) _) (by omega)) k_SB_append_C j_S_88 se_SB_SB_append_C (va_recv hK hP (ci := 3) (q0 := 1) rfl rfl) (cw_down G hP hD hS hA [1, 2] rfl rfl) ⟨Nat.le_of_ble_eq_true rfl, Nat.le_of_ble_eq_true rfl⟩ rfl hl.1 (Nat.le_of_ble_eq_true rfl) d_S_addCode_48 ⟨(by first | exact Nat.le_of_ble_eq_true rfl | (dsimp only; omega) | omega), (by first | exact Nat.le_of_ble_eq_true rfl | (dsimp only; omega) | omega)⟩) hP hD hS hA [1, 2] [0] rfl rfl rfl (by decide) (fun r_44 w1 H locs hp hP hD hS => ?_)
        obtain ⟨er, v_45, f_45, rfl, ht_45⟩ := hp
        rw [er]
        have hge_46 := ht_45.2.2.1
        have hgf_46 : ((xs ++ [91]) ++ [((li_x 0).getD pj 0)]).length = ((xs ++ [91]).length + 1) := by rw [List.length_append]; rfl
        have hP : va_P (gD g) classes [(s0, .inr (1, [.ref b])), (b, .inr (3, [.ref v_45, .int 0, .int ml, .int (nI ((xs ++ [91]) ++ [((li_x 0).getD pj 0)]).length)])), (v_45, .inl (gB g, (sb_cap ((xs ++ [91]).length + 1) (sb_cap (xs.length + 1) cp)), .inl f_45))] H := hP
        have hD : va_D A [(s0, .inr (1, [.ref b])), (b, .inr (3, [.ref v_45, .int 0, .int ml, .int (nI ((xs ++ [91]) ++ [((li_x 0).getD pj 0)]).length)])), (v_45, .inl (gB g, (sb_cap ((xs ++ [91]).length + 1) (sb_cap (xs.length + 1) cp)), .inl f_45))] := hD
        refine lv_pop hx hb d_S_addCode_51 rfl ?_
        have e : z_S_addCode xs t pj pt = ((xs ++ [91]) ++ [((li_x 0).getD pj 0)]) := by rw [z_S_addCode, if_neg c_2, if_pos c_27, if_neg c_30]
        exact ret_v hx hb hr hlk (hP.sub (ws' := [(s0, .inr (1, [.ref b])), (b, .inr (3, [.ref v_45, .int 0, .int ml, .int (nI ((xs ++ [91]) ++ [((li_x 0).getD pj 0)]).length)])), (v_45, .inl (gB g, (sb_cap ((xs ++ [91]).length + 1) (sb_cap (xs.length + 1) cp)), .inl f_45))]) [0, 1, 2] rfl) (hD.sub (ws' := [(s0, .inr (1, [.ref b])), (b, .inr (3, [.ref v_45, .int 0, .int ml, .int (nI ((xs ++ [91]) ++ [((li_x 0).getD pj 0)]).length)])), (v_45, .inl (gB g, (sb_cap ((xs ++ [91]).length + 1) (sb_cap (xs.length + 1) cp)), .inl f_45))]) [0, 1, 2] rfl rfl) hS ⟨_, _, _, _, by rw [e], by rw [e]; exact ht_45, by rw [e]; omega⟩ (by first | exact Nat.le_of_ble_eq_true rfl | (dsimp only; omega) | omega) (by first | exact Nat.le_of_ble_eq_true rfl | (dsimp only; omega) | omega) d_S_addCode_52
    · skip
      refine lv_aload_n hx hb d_S_addCode_10 rfl (lv_at hl 1 rfl) ?_
      refine va_get (D := gD g) (ci := 1) (v := .ref b) (C := R_S) (T := F_S) (N := 1) hx hb hF.2.2.2.2 in_S hF.2.2.2.1 hK hP 0 rfl rfl 0 (by decide) (hF.2.2.2.2 _ fl_S_12) (fun _ h9 => h9) rfl d_S_addCode_11 ?_
      refine lv_bipush (v := 91) hx hb d_S_addCode_14 (by decide) ?_
      have hga_47 := gc_le ((xs ++ [91]).length + 1) (sb_cap (xs.length + 1) cp) (by omega)
      have hgb_47 := gs_le ((xs ++ [91]).length + 1) (sb_cap (xs.length + 1) cp)
      have hgd_47 := sb_cap_gem ((xs ++ [91]).length + 1) (sb_cap (xs.length + 1) cp)
      have hgc_47 := cap_le ((xs ++ [91]).length + 1) (sb_cap (xs.length + 1) cp) (by omega) (by omega)
      refine go_r (wr := [(s0, .inr (1, [.ref b]))]) (run_V hF (c_SB_append_C g l _ b v_24 (sb_cap (xs.length + 1) cp) ml f_24 (xs ++ [91]) ht_24 91 (by decide) (by omega)) k_SB_append_C j_S_88 se_SB_SB_append_C (va_recv hK hP (ci := 3) (q0 := 1) rfl rfl) (cw_down G hP hD hS hA [1, 2] rfl rfl) ⟨Nat.le_of_ble_eq_true rfl, Nat.le_of_ble_eq_true rfl⟩ rfl hl.1 (Nat.le_of_ble_eq_true rfl) d_S_addCode_16 ⟨(by first | exact Nat.le_of_ble_eq_true rfl | (dsimp only; omega) | omega), (by first | exact Nat.le_of_ble_eq_true rfl | (dsimp only; omega) | omega)⟩) hP hD hS hA [1, 2] [0] rfl rfl rfl (by decide) (fun r_48 w1 H locs hp hP hD hS => ?_)
      obtain ⟨er, v_49, f_49, rfl, ht_49⟩ := hp
      rw [er]
      have hge_50 := ht_49.2.2.1
      have hgf_50 : ((xs ++ [91]) ++ [91]).length = ((xs ++ [91]).length + 1) := by rw [List.length_append]; rfl
      have hP : va_P (gD g) classes [(s0, .inr (1, [.ref b])), (b, .inr (3, [.ref v_49, .int 0, .int ml, .int (nI ((xs ++ [91]) ++ [91]).length)])), (v_49, .inl (gB g, (sb_cap ((xs ++ [91]).length + 1) (sb_cap (xs.length + 1) cp)), .inl f_49))] H := hP
      have hD : va_D A [(s0, .inr (1, [.ref b])), (b, .inr (3, [.ref v_49, .int 0, .int ml, .int (nI ((xs ++ [91]) ++ [91]).length)])), (v_49, .inl (gB g, (sb_cap ((xs ++ [91]).length + 1) (sb_cap (xs.length + 1) cp)), .inl f_49))] := hD
      refine lv_pop hx hb d_S_addCode_19 rfl ?_
      refine lv_iinc (v := 2) (lv' := [(3, .int 2), (0, .ref s0), (1, .int t), (2, .int (nI pt))]) hx hb d_S_addCode_20 hl (k := 0) rfl (by first | rfl | decide) (by decide) rfl (fun ls hl => ?_)
      refine lv_goto (tgt := 2) hx hb d_S_addCode_23 (by decide) ?_
      refine lv_iload_n hx hb d_S_addCode_2 rfl (lv_at hl 0 rfl) ?_
      refine lv_iload_n hx hb d_S_addCode_3 rfl (lv_at hl 2 rfl) ?_
      refine pm_callNE hF hN (c_B_levels l t) k_B_levels j_S_85 ⟨Nat.le_of_ble_eq_true rfl, Nat.le_of_ble_eq_true rfl⟩ rfl hl.1 (Nat.le_of_ble_eq_true rfl) d_S_addCode_4 ⟨by first | exact Nat.le_of_ble_eq_true rfl | (dsimp only; omega) | omega | exact Nat.zero_le _, by first | exact Nat.le_of_ble_eq_true rfl | (dsimp only; omega) | omega | exact Nat.zero_le _⟩ ?_
      refine lv_icmp_ge (tgt := 26) hx hb d_S_addCode_7 (by decide) (fun c_52 => ?_) (fun c_52 => absurd hL c_52)
      refine lv_iload_n hx hb d_S_addCode_26 rfl (lv_at hl 2 rfl) ?_
      refine pm_callNE hF hN (c_B_plain l t) k_B_plain j_S_30 ⟨Nat.le_of_ble_eq_true rfl, Nat.le_of_ble_eq_true rfl⟩ rfl hl.1 (Nat.le_of_ble_eq_true rfl) d_S_addCode_27 ⟨by first | exact Nat.le_of_ble_eq_true rfl | (dsimp only; omega) | omega | exact Nat.zero_le _, by first | exact Nat.le_of_ble_eq_true rfl | (dsimp only; omega) | omega | exact Nat.zero_le _⟩ ?_
      refine tp_i (show (f_B_plain t) = (nI pj) from hpj) ?_
      refine lv_istore_n (lv' := [(3, .int (nI pj)), (0, .ref s0), (1, .int t), (2, .int (nI pt))]) hx hb d_S_addCode_30 rfl hl (by decide) rfl (fun ls hl => ?_)
      refine lv_iload_n hx hb d_S_addCode_31 rfl (lv_at hl 0 rfl) ?_
      refine pm_callNE hF hN (c_B_isPrimitive l (nI pj)) k_B_isPrimitive j_S_91 ⟨Nat.le_of_ble_eq_true rfl, Nat.le_of_ble_eq_true rfl⟩ rfl hl.1 (Nat.le_of_ble_eq_true rfl) d_S_addCode_32 ⟨by first | exact Nat.le_of_ble_eq_true rfl | (dsimp only; omega) | omega | exact Nat.zero_le _, by first | exact Nat.le_of_ble_eq_true rfl | (dsimp only; omega) | omega | exact Nat.zero_le _⟩ ?_
      refine lv_if_eq (tgt := 53) hx hb d_S_addCode_35 (by decide) (fun c_55 => ?_) (fun c_55 => ?_)
      · skip
        refine lv_aload_n hx hb d_S_addCode_53 rfl (lv_at hl 1 rfl) ?_
        refine va_get (D := gD g) (ci := 1) (v := .ref b) (C := R_S) (T := F_S) (N := 1) hx hb hF.2.2.2.2 in_S hF.2.2.2.1 hK hP 0 rfl rfl 0 (by decide) (hF.2.2.2.2 _ fl_S_12) (fun _ h9 => h9) rfl d_S_addCode_54 ?_
        refine lv_bipush (v := 76) hx hb d_S_addCode_57 (by decide) ?_
        have hga_56 := gc_le (((xs ++ [91]) ++ [91]).length + 1) (sb_cap ((xs ++ [91]).length + 1) (sb_cap (xs.length + 1) cp)) (by omega)
        have hgb_56 := gs_le (((xs ++ [91]) ++ [91]).length + 1) (sb_cap ((xs ++ [91]).length + 1) (sb_cap (xs.length + 1) cp))
        have hgd_56 := sb_cap_gem (((xs ++ [91]) ++ [91]).length + 1) (sb_cap ((xs ++ [91]).length + 1) (sb_cap (xs.length + 1) cp))
        have hgc_56 := cap_le (((xs ++ [91]) ++ [91]).length + 1) (sb_cap ((xs ++ [91]).length + 1) (sb_cap (xs.length + 1) cp)) (by omega) (by omega)
        refine go_r (wr := [(s0, .inr (1, [.ref b]))]) (run_V hF (c_SB_append_C g l _ b v_49 (sb_cap ((xs ++ [91]).length + 1) (sb_cap (xs.length + 1) cp)) ml f_49 ((xs ++ [91]) ++ [91]) ht_49 76 (by decide) (by omega)) k_SB_append_C j_S_88 se_SB_SB_append_C (va_recv hK hP (ci := 3) (q0 := 1) rfl rfl) (cw_down G hP hD hS hA [1, 2] rfl rfl) ⟨Nat.le_of_ble_eq_true rfl, Nat.le_of_ble_eq_true rfl⟩ rfl hl.1 (Nat.le_of_ble_eq_true rfl) d_S_addCode_59 ⟨(by first | exact Nat.le_of_ble_eq_true rfl | (dsimp only; omega) | omega), (by first | exact Nat.le_of_ble_eq_true rfl | (dsimp only; omega) | omega)⟩) hP hD hS hA [1, 2] [0] rfl rfl rfl (by decide) (fun r_57 w1 H locs hp hP hD hS => ?_)
        obtain ⟨er, v_58, f_58, rfl, ht_58⟩ := hp
        rw [er]
        have hge_59 := ht_58.2.2.1
        have hgf_59 : (((xs ++ [91]) ++ [91]) ++ [76]).length = (((xs ++ [91]) ++ [91]).length + 1) := by rw [List.length_append]; rfl
        have hP : va_P (gD g) classes [(s0, .inr (1, [.ref b])), (b, .inr (3, [.ref v_58, .int 0, .int ml, .int (nI (((xs ++ [91]) ++ [91]) ++ [76]).length)])), (v_58, .inl (gB g, (sb_cap (((xs ++ [91]) ++ [91]).length + 1) (sb_cap ((xs ++ [91]).length + 1) (sb_cap (xs.length + 1) cp))), .inl f_58))] H := hP
        have hD : va_D A [(s0, .inr (1, [.ref b])), (b, .inr (3, [.ref v_58, .int 0, .int ml, .int (nI (((xs ++ [91]) ++ [91]) ++ [76]).length)])), (v_58, .inl (gB g, (sb_cap (((xs ++ [91]) ++ [91]).length + 1) (sb_cap ((xs ++ [91]).length + 1) (sb_cap (xs.length + 1) cp))), .inl f_58))] := hD
        refine lv_pop hx hb d_S_addCode_62 rfl ?_
        refine lv_aload_n hx hb d_S_addCode_63 rfl (lv_at hl 1 rfl) ?_
        refine lv_iload_n hx hb d_S_addCode_64 rfl (lv_at hl 0 rfl) ?_
        refine go_r (wr := [(s0, .inr (1, [.ref b])), (b, .inr (3, [.ref v_58, .int 0, .int ml, .int (nI (((xs ++ [91]) ++ [91]) ++ [76]).length)])), (v_58, .inl (gB g, (sb_cap (((xs ++ [91]) ++ [91]).length + 1) (sb_cap ((xs ++ [91]).length + 1) (sb_cap (xs.length + 1) cp))), .inl f_58))]) (run_SN hF G.1 (c_B_name g l _ (nI pj)) k_B_name j_S_39 (cw_down G hP hD hS hA [] rfl rfl) ⟨Nat.le_of_ble_eq_true rfl, Nat.le_of_ble_eq_true rfl⟩ rfl hl.1 (Nat.le_of_ble_eq_true rfl) d_S_addCode_65 ⟨(by first | exact Nat.le_of_ble_eq_true rfl | (dsimp only; omega) | omega), (by first | exact Nat.le_of_ble_eq_true rfl | (dsimp only; omega) | omega)⟩) hP hD hS hA [] [0, 1, 2] rfl rfl rfl (by decide) (fun r_60 w1 H locs hp hP hD hS => ?_)
        obtain ⟨er, rfl⟩ := hp
        rw [er]
        have hP : va_P (gD g) classes [(s0, .inr (1, [.ref b])), (b, .inr (3, [.ref v_58, .int 0, .int ml, .int (nI (((xs ++ [91]) ++ [91]) ++ [76]).length)])), (v_58, .inl (gB g, (sb_cap (((xs ++ [91]) ++ [91]).length + 1) (sb_cap ((xs ++ [91]).length + 1) (sb_cap (xs.length + 1) cp))), .inl f_58))] H := hP
        have hD : va_D A [(s0, .inr (1, [.ref b])), (b, .inr (3, [.ref v_58, .int 0, .int ml, .int (nI (((xs ++ [91]) ++ [91]) ++ [76]).length)])), (v_58, .inl (gB g, (sb_cap (((xs ++ [91]) ++ [91]).length + 1) (sb_cap ((xs ++ [91]).length + 1) (sb_cap (xs.length + 1) cp))), .inl f_58))] := hD
        refine lv_bipush (v := 46) hx hb d_S_addCode_68 (by decide) ?_
        refine lv_iload_n hx hb d_S_addCode_70 rfl (lv_at hl 3 rfl) ?_
        refine go_v (wr := []) (run_V hF (c_S_addWithChange g l _ s0 b v_58 (sb_cap (((xs ++ [91]) ++ [91]).length + 1) (sb_cap ((xs ++ [91]).length + 1) (sb_cap (xs.length + 1) cp))) ml f_58 (((xs ++ [91]) ++ [91]) ++ [76]) ht_58 (f_B_name (nI pj)) 46 pt (by omega) (nm_lt (nI pj)) hpt) k_S_addWithChange j_S_50 se_S_S_addWithChange (va_recv hK hP (ci := 1) (q0 := 0) rfl rfl) (cw_down G hP hD hS hA [0, 1, 2] rfl rfl) ⟨Nat.le_of_ble_eq_true rfl, Nat.le_of_ble_eq_true rfl⟩ rfl hl.1 (Nat.le_of_ble_eq_true rfl) d_S_addCode_71 ⟨(by first | exact Nat.le_of_ble_eq_true rfl | (dsimp only; omega) | omega), (by first | exact Nat.le_of_ble_eq_true rfl | (dsimp only; omega) | omega)⟩) hP hD hS hA [0, 1, 2] [] rfl rfl rfl (by decide) (fun w1 H locs hp hP hD hS => ?_)
        obtain ⟨v_62, cp_62, ml_62, f_62, rfl, ht_62, hn_62⟩ := hp
        have hka_62 := ht_62.2.1
        have hkb_62 := ht_62.2.2.1
        have hP : va_P (gD g) classes [(s0, .inr (1, [.ref b])), (b, .inr (3, [.ref v_62, .int 0, .int ml_62, .int (nI (z_S_addWithChange (((xs ++ [91]) ++ [91]) ++ [76]) (f_B_name (nI pj)) 46 pt).length)])), (v_62, .inl (gB g, cp_62, .inl f_62))] H := hP
        have hD : va_D A [(s0, .inr (1, [.ref b])), (b, .inr (3, [.ref v_62, .int 0, .int ml_62, .int (nI (z_S_addWithChange (((xs ++ [91]) ++ [91]) ++ [76]) (f_B_name (nI pj)) 46 pt).length)])), (v_62, .inl (gB g, cp_62, .inl f_62))] := hD
        refine lv_aload_n hx hb d_S_addCode_74 rfl (lv_at hl 1 rfl) ?_
        refine va_get (D := gD g) (ci := 1) (v := .ref b) (C := R_S) (T := F_S) (N := 1) hx hb hF.2.2.2.2 in_S hF.2.2.2.1 hK hP 0 rfl rfl 0 (by decide) (hF.2.2.2.2 _ fl_S_12) (fun _ h9 => h9) rfl d_S_addCode_75 ?_
        refine lv_bipush (v := 59) hx hb d_S_addCode_78 (by decide) ?_
        have hga_63 := gc_le ((z_S_addWithChange (((xs ++ [91]) ++ [91]) ++ [76]) (f_B_name (nI pj)) 46 pt).length + 1) cp_62 (by omega)
        have hgb_63 := gs_le ((z_S_addWithChange (((xs ++ [91]) ++ [91]) ++ [76]) (f_B_name (nI pj)) 46 pt).length + 1) cp_62
        have hgd_63 := sb_cap_gem ((z_S_addWithChange (((xs ++ [91]) ++ [91]) ++ [76]) (f_B_name (nI pj)) 46 pt).length + 1) cp_62
        have hgc_63 := cap_le ((z_S_addWithChange (((xs ++ [91]) ++ [91]) ++ [76]) (f_B_name (nI pj)) 46 pt).length + 1) cp_62 (by omega) (by omega)
        refine go_r (wr := [(s0, .inr (1, [.ref b]))]) (run_V hF (c_SB_append_C g l _ b v_62 cp_62 ml_62 f_62 (z_S_addWithChange (((xs ++ [91]) ++ [91]) ++ [76]) (f_B_name (nI pj)) 46 pt) ht_62 59 (by decide) (by omega)) k_SB_append_C j_S_88 se_SB_SB_append_C (va_recv hK hP (ci := 3) (q0 := 1) rfl rfl) (cw_down G hP hD hS hA [1, 2] rfl rfl) ⟨Nat.le_of_ble_eq_true rfl, Nat.le_of_ble_eq_true rfl⟩ rfl hl.1 (Nat.le_of_ble_eq_true rfl) d_S_addCode_80 ⟨(by first | exact Nat.le_of_ble_eq_true rfl | (dsimp only; omega) | omega), (by first | exact Nat.le_of_ble_eq_true rfl | (dsimp only; omega) | omega)⟩) hP hD hS hA [1, 2] [0] rfl rfl rfl (by decide) (fun r_64 w1 H locs hp hP hD hS => ?_)
        obtain ⟨er, v_65, f_65, rfl, ht_65⟩ := hp
        rw [er]
        have hge_66 := ht_65.2.2.1
        have hgf_66 : ((z_S_addWithChange (((xs ++ [91]) ++ [91]) ++ [76]) (f_B_name (nI pj)) 46 pt) ++ [59]).length = ((z_S_addWithChange (((xs ++ [91]) ++ [91]) ++ [76]) (f_B_name (nI pj)) 46 pt).length + 1) := by rw [List.length_append]; rfl
        have hP : va_P (gD g) classes [(s0, .inr (1, [.ref b])), (b, .inr (3, [.ref v_65, .int 0, .int ml_62, .int (nI ((z_S_addWithChange (((xs ++ [91]) ++ [91]) ++ [76]) (f_B_name (nI pj)) 46 pt) ++ [59]).length)])), (v_65, .inl (gB g, (sb_cap ((z_S_addWithChange (((xs ++ [91]) ++ [91]) ++ [76]) (f_B_name (nI pj)) 46 pt).length + 1) cp_62), .inl f_65))] H := hP
        have hD : va_D A [(s0, .inr (1, [.ref b])), (b, .inr (3, [.ref v_65, .int 0, .int ml_62, .int (nI ((z_S_addWithChange (((xs ++ [91]) ++ [91]) ++ [76]) (f_B_name (nI pj)) 46 pt) ++ [59]).length)])), (v_65, .inl (gB g, (sb_cap ((z_S_addWithChange (((xs ++ [91]) ++ [91]) ++ [76]) (f_B_name (nI pj)) 46 pt).length + 1) cp_62), .inl f_65))] := hD
        refine lv_pop hx hb d_S_addCode_83 rfl ?_
        have e : z_S_addCode xs t pj pt = ((z_S_addWithChange (((xs ++ [91]) ++ [91]) ++ [76]) (f_B_name (nI pj)) 46 pt) ++ [59]) := by rw [z_S_addCode, if_neg c_2, if_neg c_27, if_pos c_55]
        exact ret_v hx hb hr hlk (hP.sub (ws' := [(s0, .inr (1, [.ref b])), (b, .inr (3, [.ref v_65, .int 0, .int ml_62, .int (nI ((z_S_addWithChange (((xs ++ [91]) ++ [91]) ++ [76]) (f_B_name (nI pj)) 46 pt) ++ [59]).length)])), (v_65, .inl (gB g, (sb_cap ((z_S_addWithChange (((xs ++ [91]) ++ [91]) ++ [76]) (f_B_name (nI pj)) 46 pt).length + 1) cp_62), .inl f_65))]) [0, 1, 2] rfl) (hD.sub (ws' := [(s0, .inr (1, [.ref b])), (b, .inr (3, [.ref v_65, .int 0, .int ml_62, .int (nI ((z_S_addWithChange (((xs ++ [91]) ++ [91]) ++ [76]) (f_B_name (nI pj)) 46 pt) ++ [59]).length)])), (v_65, .inl (gB g, (sb_cap ((z_S_addWithChange (((xs ++ [91]) ++ [91]) ++ [76]) (f_B_name (nI pj)) 46 pt).length + 1) cp_62), .inl f_65))]) [0, 1, 2] rfl rfl) hS ⟨_, _, _, _, by rw [e], by rw [e]; exact ht_65, by rw [e]; omega⟩ (by first | exact Nat.le_of_ble_eq_true rfl | (dsimp only; omega) | omega) (by first | exact Nat.le_of_ble_eq_true rfl | (dsimp only; omega) | omega) d_S_addCode_84
      · skip
        refine lv_aload_n hx hb d_S_addCode_38 rfl (lv_at hl 1 rfl) ?_
        refine va_get (D := gD g) (ci := 1) (v := .ref b) (C := R_S) (T := F_S) (N := 1) hx hb hF.2.2.2.2 in_S hF.2.2.2.1 hK hP 0 rfl rfl 0 (by decide) (hF.2.2.2.2 _ fl_S_12) (fun _ h9 => h9) rfl d_S_addCode_39 ?_
        refine va_ldcS hx hb hF.2.2.2.1 (lr_0 G) d_S_addCode_42 ?_
        refine lv_iload_n hx hb d_S_addCode_44 rfl (lv_at hl 0 rfl) ?_
        refine go_i (wr := [(s0, .inr (1, [.ref b])), (b, .inr (3, [.ref v_49, .int 0, .int ml, .int (nI ((xs ++ [91]) ++ [91]).length)])), (v_49, .inl (gB g, (sb_cap ((xs ++ [91]).length + 1) (sb_cap (xs.length + 1) cp)), .inl f_49))]) (run_V hF (c_St_charAt g l _ 0 (by decide) pj (pr_lt hp25 c_55)) k_St_charAt j_S_96 se_St_St_charAt (va_Orecv (G.2.2.2.1 0 (by decide)).1 hS) (cw_down G hP hD hS hA [] rfl rfl) ⟨Nat.le_of_ble_eq_true rfl, Nat.le_of_ble_eq_true rfl⟩ rfl hl.1 (Nat.le_of_ble_eq_true rfl) d_S_addCode_45 ⟨(by first | exact Nat.le_of_ble_eq_true rfl | (dsimp only; omega) | omega), (by first | exact Nat.le_of_ble_eq_true rfl | (dsimp only; omega) | omega)⟩) hP hD hS hA [] [0, 1, 2] rfl rfl rfl (by decide) (fun r_67 w1 H locs hp hP hD hS => ?_)
        obtain ⟨rfl, rfl⟩ := hp
        have hP : va_P (gD g) classes [(s0, .inr (1, [.ref b])), (b, .inr (3, [.ref v_49, .int 0, .int ml, .int (nI ((xs ++ [91]) ++ [91]).length)])), (v_49, .inl (gB g, (sb_cap ((xs ++ [91]).length + 1) (sb_cap (xs.length + 1) cp)), .inl f_49))] H := hP
        have hD : va_D A [(s0, .inr (1, [.ref b])), (b, .inr (3, [.ref v_49, .int 0, .int ml, .int (nI ((xs ++ [91]) ++ [91]).length)])), (v_49, .inl (gB g, (sb_cap ((xs ++ [91]).length + 1) (sb_cap (xs.length + 1) cp)), .inl f_49))] := hD
        have hga_68 := gc_le (((xs ++ [91]) ++ [91]).length + 1) (sb_cap ((xs ++ [91]).length + 1) (sb_cap (xs.length + 1) cp)) (by omega)
        have hgb_68 := gs_le (((xs ++ [91]) ++ [91]).length + 1) (sb_cap ((xs ++ [91]).length + 1) (sb_cap (xs.length + 1) cp))
        have hgd_68 := sb_cap_gem (((xs ++ [91]) ++ [91]).length + 1) (sb_cap ((xs ++ [91]).length + 1) (sb_cap (xs.length + 1) cp))
        have hgc_68 := cap_le (((xs ++ [91]) ++ [91]).length + 1) (sb_cap ((xs ++ [91]).length + 1) (sb_cap (xs.length + 1) cp)) (by omega) (by omega)
        refine go_r (wr := [(s0, .inr (1, [.ref b]))]) (run_V hF (c_SB_append_C g l _ b v_49 (sb_cap ((xs ++ [91]).length + 1) (sb_cap (xs.length + 1) cp)) ml f_49 ((xs ++ [91]) ++ [91]) ht_49 ((li_x 0).getD pj 0) (li_ch (by decide) _) (by omega)) k_SB_append_C j_S_88 se_SB_SB_append_C (va_recv hK hP (ci := 3) (q0 := 1) rfl rfl) (cw_down G hP hD hS hA [1, 2] rfl rfl) ⟨Nat.le_of_ble_eq_true rfl, Nat.le_of_ble_eq_true rfl⟩ rfl hl.1 (Nat.le_of_ble_eq_true rfl) d_S_addCode_48 ⟨(by first | exact Nat.le_of_ble_eq_true rfl | (dsimp only; omega) | omega), (by first | exact Nat.le_of_ble_eq_true rfl | (dsimp only; omega) | omega)⟩) hP hD hS hA [1, 2] [0] rfl rfl rfl (by decide) (fun r_69 w1 H locs hp hP hD hS => ?_)
        obtain ⟨er, v_70, f_70, rfl, ht_70⟩ := hp
        rw [er]
        have hge_71 := ht_70.2.2.1
        have hgf_71 : (((xs ++ [91]) ++ [91]) ++ [((li_x 0).getD pj 0)]).length = (((xs ++ [91]) ++ [91]).length + 1) := by rw [List.length_append]; rfl
        have hP : va_P (gD g) classes [(s0, .inr (1, [.ref b])), (b, .inr (3, [.ref v_70, .int 0, .int ml, .int (nI (((xs ++ [91]) ++ [91]) ++ [((li_x 0).getD pj 0)]).length)])), (v_70, .inl (gB g, (sb_cap (((xs ++ [91]) ++ [91]).length + 1) (sb_cap ((xs ++ [91]).length + 1) (sb_cap (xs.length + 1) cp))), .inl f_70))] H := hP
        have hD : va_D A [(s0, .inr (1, [.ref b])), (b, .inr (3, [.ref v_70, .int 0, .int ml, .int (nI (((xs ++ [91]) ++ [91]) ++ [((li_x 0).getD pj 0)]).length)])), (v_70, .inl (gB g, (sb_cap (((xs ++ [91]) ++ [91]).length + 1) (sb_cap ((xs ++ [91]).length + 1) (sb_cap (xs.length + 1) cp))), .inl f_70))] := hD
        refine lv_pop hx hb d_S_addCode_51 rfl ?_
        have e : z_S_addCode xs t pj pt = (((xs ++ [91]) ++ [91]) ++ [((li_x 0).getD pj 0)]) := by rw [z_S_addCode, if_neg c_2, if_neg c_27, if_neg c_55]
        exact ret_v hx hb hr hlk (hP.sub (ws' := [(s0, .inr (1, [.ref b])), (b, .inr (3, [.ref v_70, .int 0, .int ml, .int (nI (((xs ++ [91]) ++ [91]) ++ [((li_x 0).getD pj 0)]).length)])), (v_70, .inl (gB g, (sb_cap (((xs ++ [91]) ++ [91]).length + 1) (sb_cap ((xs ++ [91]).length + 1) (sb_cap (xs.length + 1) cp))), .inl f_70))]) [0, 1, 2] rfl) (hD.sub (ws' := [(s0, .inr (1, [.ref b])), (b, .inr (3, [.ref v_70, .int 0, .int ml, .int (nI (((xs ++ [91]) ++ [91]) ++ [((li_x 0).getD pj 0)]).length)])), (v_70, .inl (gB g, (sb_cap (((xs ++ [91]) ++ [91]).length + 1) (sb_cap ((xs ++ [91]).length + 1) (sb_cap (xs.length + 1) cp))), .inl f_70))]) [0, 1, 2] rfl rfl) hS ⟨_, _, _, _, by rw [e], by rw [e]; exact ht_70, by rw [e]; omega⟩ (by first | exact Nat.le_of_ble_eq_true rfl | (dsimp only; omega) | omega) (by first | exact Nat.le_of_ble_eq_true rfl | (dsimp only; omega) | omega) d_S_addCode_52
def z_S_addName (xs : List Nat) (t : Int32) (pj : Nat) : List Nat := (if (f_B_isArray t) = 0 then (xs ++ li_x (f_B_name t)) else (z_S_addCode xs t pj 46))
set_option maxRecDepth 100000 in
theorem k_S_addName : ck y_S_addName b_S_addName 2 (none) 1 (.instanceMethod y_S_addName) := ⟨tk_of (List.mem_of_getElem? (i := 210) rfl) rfl, tk_of (List.mem_of_getElem? (i := 209) (by decide +kernel)) rfl, tk_of (List.mem_of_getElem? (i := 37) (by decide +kernel)) rfl, by decide +kernel⟩
theorem j_S_82 : Cond.methodLinkNest R_S 82 y_B_isArray R_P ∈ nw_l := nw_of (List.mem_of_getElem? (i := 211) (by decide +kernel)) rfl
theorem j_S_72 : Cond.methodLink R_S 72 y_S_addCode ∈ tk := tk_of (List.mem_of_getElem? (i := 214) (by decide +kernel)) rfl
theorem se_S_S_addCode : Cond.selects R_S y_S_addCode y_S_addCode ∈ tk := tk_of (List.mem_of_getElem? (i := 3) (by decide +kernel)) rfl
set_option maxHeartbeats 4000000 in
set_option maxRecDepth 100000 in
theorem c_S_addName (g : gT) (l : Launch) (sz : Nat) (s0 b v cp : Nat) (ml : Int32) (a : Nat → Int32) (xs : List Nat) (ht : tx xs cp a) (t : Int32) (pj : Nat) (hlen : xs.length + 25 ≤ 70) (hL : f_B_levels t ≤ 2) (hpj : f_B_plain t = nI pj) (hp25 : pj < 25) : Mg g l y_S_addName b_S_addName 2 (none) 8 194 21 756 [.ref s0, .int t] [(s0, .inr (1, [.ref b])), (b, .inr (3, [.ref v, .int 0, .int ml, .int (nI xs.length)])), (v, .inl (gB g, cp, .inl a))] sz (qV g (fun w1 => ∃ (v' cp' : Nat) (ml' : Int32) (f : Nat → Int32), w1 = [(s0, .inr (1, [.ref b])), (b, .inr (3, [.ref v', .int 0, .int ml', .int (nI (z_S_addName xs t pj).length)])), (v', .inl (gB g, cp', .inl f))] ∧ tx (z_S_addName xs t pj) cp' f ∧ (z_S_addName xs t pj).length ≤ xs.length + 25)) := by
  refine mg_of (by decide) (Nat.le_of_ble_eq_true rfl) ?_
  intro p e s m below meth c ls A hx hb hF hr hlk hnm hA G hP hD hS hl
  have hK := G.2.1
  have hN := G.1
  have hl : lv_has ls 2 [(0, .ref s0), (1, .int t)] := hl
  have ht1 := ht.1
  have ht2 := ht.2.1
  have ht3 := ht.2.2.1
  refine lv_iload_n hx hb d_S_addName_0 rfl (lv_at hl 1 rfl) ?_
  refine pm_callNE hF hN (c_B_isArray l t) k_B_isArray j_S_82 ⟨Nat.le_of_ble_eq_true rfl, Nat.le_of_ble_eq_true rfl⟩ rfl hl.1 (Nat.le_of_ble_eq_true rfl) d_S_addName_1 ⟨by first | exact Nat.le_of_ble_eq_true rfl | (dsimp only; omega) | omega | exact Nat.zero_le _, by first | exact Nat.le_of_ble_eq_true rfl | (dsimp only; omega) | omega | exact Nat.zero_le _⟩ ?_
  refine lv_if_eq (tgt := 17) hx hb d_S_addName_4 (by decide) (fun c_2 => ?_) (fun c_2 => ?_)
  · skip
    refine lv_aload_n hx hb d_S_addName_17 rfl (lv_at hl 0 rfl) ?_
    refine va_get (D := gD g) (ci := 1) (v := .ref b) (C := R_S) (T := F_S) (N := 1) hx hb hF.2.2.2.2 in_S hF.2.2.2.1 hK hP 0 rfl rfl 0 (by decide) (hF.2.2.2.2 _ fl_S_12) (fun _ h9 => h9) rfl d_S_addName_18 ?_
    refine lv_iload_n hx hb d_S_addName_21 rfl (lv_at hl 1 rfl) ?_
    refine go_r (wr := [(s0, .inr (1, [.ref b])), (b, .inr (3, [.ref v, .int 0, .int ml, .int (nI xs.length)])), (v, .inl (gB g, cp, .inl a))]) (run_SN hF G.1 (c_B_name g l _ t) k_B_name j_S_39 (cw_down G hP hD hS hA [] rfl rfl) ⟨Nat.le_of_ble_eq_true rfl, Nat.le_of_ble_eq_true rfl⟩ rfl hl.1 (Nat.le_of_ble_eq_true rfl) d_S_addName_22 ⟨(by first | exact Nat.le_of_ble_eq_true rfl | (dsimp only; omega) | omega), (by first | exact Nat.le_of_ble_eq_true rfl | (dsimp only; omega) | omega)⟩) hP hD hS hA [] [0, 1, 2] rfl rfl rfl (by decide) (fun r_3 w1 H locs hp hP hD hS => ?_)
    obtain ⟨er, rfl⟩ := hp
    rw [er]
    have hP : va_P (gD g) classes [(s0, .inr (1, [.ref b])), (b, .inr (3, [.ref v, .int 0, .int ml, .int (nI xs.length)])), (v, .inl (gB g, cp, .inl a))] H := hP
    have hD : va_D A [(s0, .inr (1, [.ref b])), (b, .inr (3, [.ref v, .int 0, .int ml, .int (nI xs.length)])), (v, .inl (gB g, cp, .inl a))] := hD
    have h21_4 := li_40 (f_B_name t) (nm_lt t)
    have hga_5 := gc_le (xs.length + (li_x (f_B_name t)).length) cp (by omega)
    have hgb_5 := gs_le (xs.length + (li_x (f_B_name t)).length) cp
    have hgd_5 := sb_cap_gem (xs.length + (li_x (f_B_name t)).length) cp
    have hgc_5 := cap_le (xs.length + (li_x (f_B_name t)).length) cp (by omega) (by omega)
    refine go_r (wr := [(s0, .inr (1, [.ref b]))]) (run_V hF (c_SB_append_S g l _ b v cp ml a xs ht (f_B_name t) (nm_lt t) (by omega)) k_SB_append_S j_S_61 se_SB_SB_append_S (va_recv hK hP (ci := 3) (q0 := 1) rfl rfl) (cw_down G hP hD hS hA [1, 2] rfl rfl) ⟨Nat.le_of_ble_eq_true rfl, Nat.le_of_ble_eq_true rfl⟩ rfl hl.1 (Nat.le_of_ble_eq_true rfl) d_S_addName_25 ⟨(by first | exact Nat.le_of_ble_eq_true rfl | (dsimp only; omega) | omega), (by first | exact Nat.le_of_ble_eq_true rfl | (dsimp only; omega) | omega)⟩) hP hD hS hA [1, 2] [0] rfl rfl rfl (by decide) (fun r_6 w1 H locs hp hP hD hS => ?_)
    obtain ⟨er, v_7, f_7, rfl, ht_7⟩ := hp
    rw [er]
    have hge_8 := ht_7.2.2.1
    have hgf_8 : (xs ++ li_x (f_B_name t)).length = (xs.length + (li_x (f_B_name t)).length) := by rw [List.length_append]
    have hP : va_P (gD g) classes [(s0, .inr (1, [.ref b])), (b, .inr (3, [.ref v_7, .int 0, .int ml, .int (nI (xs ++ li_x (f_B_name t)).length)])), (v_7, .inl (gB g, (sb_cap (xs.length + (li_x (f_B_name t)).length) cp), .inl f_7))] H := hP
    have hD : va_D A [(s0, .inr (1, [.ref b])), (b, .inr (3, [.ref v_7, .int 0, .int ml, .int (nI (xs ++ li_x (f_B_name t)).length)])), (v_7, .inl (gB g, (sb_cap (xs.length + (li_x (f_B_name t)).length) cp), .inl f_7))] := hD
    refine lv_pop hx hb d_S_addName_28 rfl ?_
    have e : z_S_addName xs t pj = (xs ++ li_x (f_B_name t)) := by rw [z_S_addName, if_pos c_2]
    exact ret_v hx hb hr hlk (hP.sub (ws' := [(s0, .inr (1, [.ref b])), (b, .inr (3, [.ref v_7, .int 0, .int ml, .int (nI (xs ++ li_x (f_B_name t)).length)])), (v_7, .inl (gB g, (sb_cap (xs.length + (li_x (f_B_name t)).length) cp), .inl f_7))]) [0, 1, 2] rfl) (hD.sub (ws' := [(s0, .inr (1, [.ref b])), (b, .inr (3, [.ref v_7, .int 0, .int ml, .int (nI (xs ++ li_x (f_B_name t)).length)])), (v_7, .inl (gB g, (sb_cap (xs.length + (li_x (f_B_name t)).length) cp), .inl f_7))]) [0, 1, 2] rfl rfl) hS ⟨_, _, _, _, by rw [e], by rw [e]; exact ht_7, by rw [e]; omega⟩ (by first | exact Nat.le_of_ble_eq_true rfl | (dsimp only; omega) | omega) (by first | exact Nat.le_of_ble_eq_true rfl | (dsimp only; omega) | omega) d_S_addName_29
  · skip
    refine lv_aload_n hx hb d_S_addName_7 rfl (lv_at hl 0 rfl) ?_
    refine lv_iload_n hx hb d_S_addName_8 rfl (lv_at hl 1 rfl) ?_
    refine lv_bipush (v := 46) hx hb d_S_addName_9 (by decide) ?_
    refine go_v (wr := []) (run_V hF (c_S_addCode g l _ s0 b v cp ml a xs ht t pj 46 (by omega) hL hpj hp25 (by decide)) k_S_addCode j_S_72 se_S_S_addCode (va_recv hK hP (ci := 1) (q0 := 0) rfl rfl) (cw_down G hP hD hS hA [0, 1, 2] rfl rfl) ⟨Nat.le_of_ble_eq_true rfl, Nat.le_of_ble_eq_true rfl⟩ rfl hl.1 (Nat.le_of_ble_eq_true rfl) d_S_addName_11 ⟨(by first | exact Nat.le_of_ble_eq_true rfl | (dsimp only; omega) | omega), (by first | exact Nat.le_of_ble_eq_true rfl | (dsimp only; omega) | omega)⟩) hP hD hS hA [0, 1, 2] [] rfl rfl rfl (by decide) (fun w1 H locs hp hP hD hS => ?_)
    obtain ⟨v_10, cp_10, ml_10, f_10, rfl, ht_10, hn_10⟩ := hp
    have hka_10 := ht_10.2.1
    have hkb_10 := ht_10.2.2.1
    have hP : va_P (gD g) classes [(s0, .inr (1, [.ref b])), (b, .inr (3, [.ref v_10, .int 0, .int ml_10, .int (nI (z_S_addCode xs t pj 46).length)])), (v_10, .inl (gB g, cp_10, .inl f_10))] H := hP
    have hD : va_D A [(s0, .inr (1, [.ref b])), (b, .inr (3, [.ref v_10, .int 0, .int ml_10, .int (nI (z_S_addCode xs t pj 46).length)])), (v_10, .inl (gB g, cp_10, .inl f_10))] := hD
    refine lv_goto (tgt := 29) hx hb d_S_addName_14 (by decide) ?_
    have e : z_S_addName xs t pj = (z_S_addCode xs t pj 46) := by rw [z_S_addName, if_neg c_2]
    exact ret_v hx hb hr hlk (hP.sub (ws' := [(s0, .inr (1, [.ref b])), (b, .inr (3, [.ref v_10, .int 0, .int ml_10, .int (nI (z_S_addCode xs t pj 46).length)])), (v_10, .inl (gB g, cp_10, .inl f_10))]) [0, 1, 2] rfl) (hD.sub (ws' := [(s0, .inr (1, [.ref b])), (b, .inr (3, [.ref v_10, .int 0, .int ml_10, .int (nI (z_S_addCode xs t pj 46).length)])), (v_10, .inl (gB g, cp_10, .inl f_10))]) [0, 1, 2] rfl rfl) hS ⟨_, _, _, _, by rw [e], by rw [e]; exact ht_10, by rw [e]; omega⟩ (by first | exact Nat.le_of_ble_eq_true rfl | (dsimp only; omega) | omega) (by first | exact Nat.le_of_ble_eq_true rfl | (dsimp only; omega) | omega) d_S_addName_29
def z_S_addKind (xs : List Nat) (t : Int32) : List Nat := (if (f_B_isInterface t) = 0 then (if (f_B_isPrimitive t) = 0 then (xs ++ li_x 31) else xs) else (xs ++ li_x 30))
set_option maxRecDepth 100000 in
theorem k_S_addKind : ck y_S_addKind b_S_addKind 2 (none) 1 (.instanceMethod y_S_addKind) := ⟨tk_of (List.mem_of_getElem? (i := 397) rfl) rfl, tk_of (List.mem_of_getElem? (i := 396) (by decide +kernel)) rfl, tk_of (List.mem_of_getElem? (i := 37) (by decide +kernel)) rfl, by decide +kernel⟩
theorem j_S_102 : Cond.methodLinkNest R_S 102 y_B_isInterface R_P ∈ nw_l := nw_of (List.mem_of_getElem? (i := 398) (by decide +kernel)) rfl
theorem lr_31 {g : gT} {A : Nat → Prop} {s : State} {H : Heap} (G : Gx g A s H) : vk_R R_S 107 "class " (gK g 31) s := G.2.2.1 31 ("ClassProbe$Script", 107, "class ") (by decide +kernel)
theorem lr_30 {g : gT} {A : Nat → Prop} {s : State} {H : Heap} (G : Gx g A s H) : vk_R R_S 105 "interface " (gK g 30) s := G.2.2.1 30 ("ClassProbe$Script", 105, "interface ") (by decide +kernel)
set_option maxHeartbeats 4000000 in
set_option maxRecDepth 100000 in
theorem c_S_addKind (g : gT) (l : Launch) (sz : Nat) (s0 b v cp : Nat) (ml : Int32) (a : Nat → Int32) (xs : List Nat) (ht : tx xs cp a) (t : Int32) (hlen : xs.length + 21 ≤ 70) : Mg g l y_S_addKind b_S_addKind 2 (none) 6 148 7 252 [.ref s0, .int t] [(s0, .inr (1, [.ref b])), (b, .inr (3, [.ref v, .int 0, .int ml, .int (nI xs.length)])), (v, .inl (gB g, cp, .inl a))] sz (qV g (fun w1 => ∃ (v' cp' : Nat) (ml' : Int32) (f : Nat → Int32), w1 = [(s0, .inr (1, [.ref b])), (b, .inr (3, [.ref v', .int 0, .int ml', .int (nI (z_S_addKind xs t).length)])), (v', .inl (gB g, cp', .inl f))] ∧ tx (z_S_addKind xs t) cp' f ∧ (z_S_addKind xs t).length ≤ xs.length + 21)) := by
  refine mg_of (by decide) (Nat.le_of_ble_eq_true rfl) ?_
  intro p e s m below meth c ls A hx hb hF hr hlk hnm hA G hP hD hS hl
  have hK := G.2.1
  have hN := G.1
  have hl : lv_has ls 2 [(0, .ref s0), (1, .int t)] := hl
  have ht1 := ht.1
  have ht2 := ht.2.1
  have ht3 := ht.2.2.1
  refine lv_iload_n hx hb d_S_addKind_0 rfl (lv_at hl 1 rfl) ?_
  refine pm_callNE hF hN (c_B_isInterface l t) k_B_isInterface j_S_102 ⟨Nat.le_of_ble_eq_true rfl, Nat.le_of_ble_eq_true rfl⟩ rfl hl.1 (Nat.le_of_ble_eq_true rfl) d_S_addKind_1 ⟨by first | exact Nat.le_of_ble_eq_true rfl | (dsimp only; omega) | omega | exact Nat.zero_le _, by first | exact Nat.le_of_ble_eq_true rfl | (dsimp only; omega) | omega | exact Nat.zero_le _⟩ ?_
  refine lv_if_eq (tgt := 20) hx hb d_S_addKind_4 (by decide) (fun c_2 => ?_) (fun c_2 => ?_)
  · skip
    refine lv_iload_n hx hb d_S_addKind_20 rfl (lv_at hl 1 rfl) ?_
    refine pm_callNE hF hN (c_B_isPrimitive l t) k_B_isPrimitive j_S_91 ⟨Nat.le_of_ble_eq_true rfl, Nat.le_of_ble_eq_true rfl⟩ rfl hl.1 (Nat.le_of_ble_eq_true rfl) d_S_addKind_21 ⟨by first | exact Nat.le_of_ble_eq_true rfl | (dsimp only; omega) | omega | exact Nat.zero_le _, by first | exact Nat.le_of_ble_eq_true rfl | (dsimp only; omega) | omega | exact Nat.zero_le _⟩ ?_
    refine lv_if_ne (tgt := 37) hx hb d_S_addKind_24 (by decide) (fun c_4 => ?_) (fun c_4 => ?_)
    · skip
      have e : z_S_addKind xs t = xs := by rw [z_S_addKind, if_pos c_2, if_neg c_4]
      exact ret_v hx hb hr hlk (hP.sub (ws' := [(s0, .inr (1, [.ref b])), (b, .inr (3, [.ref v, .int 0, .int ml, .int (nI xs.length)])), (v, .inl (gB g, cp, .inl a))]) [0, 1, 2] rfl) (hD.sub (ws' := [(s0, .inr (1, [.ref b])), (b, .inr (3, [.ref v, .int 0, .int ml, .int (nI xs.length)])), (v, .inl (gB g, cp, .inl a))]) [0, 1, 2] rfl rfl) hS ⟨_, _, _, _, by rw [e], by rw [e]; exact ht, by rw [e]; omega⟩ (by first | exact Nat.le_of_ble_eq_true rfl | (dsimp only; omega) | omega) (by first | exact Nat.le_of_ble_eq_true rfl | (dsimp only; omega) | omega) d_S_addKind_37
    · skip
      refine lv_aload_n hx hb d_S_addKind_27 rfl (lv_at hl 0 rfl) ?_
      refine va_get (D := gD g) (ci := 1) (v := .ref b) (C := R_S) (T := F_S) (N := 1) hx hb hF.2.2.2.2 in_S hF.2.2.2.1 hK hP 0 rfl rfl 0 (by decide) (hF.2.2.2.2 _ fl_S_12) (fun _ h9 => h9) rfl d_S_addKind_28 ?_
      refine va_ldcS hx hb hF.2.2.2.1 (lr_31 G) d_S_addKind_31 ?_
      have h21_5 := li_40 31 (by decide)
      have hga_6 := gc_le (xs.length + (li_x 31).length) cp (by omega)
      have hgb_6 := gs_le (xs.length + (li_x 31).length) cp
      have hgd_6 := sb_cap_gem (xs.length + (li_x 31).length) cp
      have hgc_6 := cap_le (xs.length + (li_x 31).length) cp (by omega) (by omega)
      refine go_r (wr := [(s0, .inr (1, [.ref b]))]) (run_V hF (c_SB_append_S g l _ b v cp ml a xs ht 31 (by decide) (by omega)) k_SB_append_S j_S_61 se_SB_SB_append_S (va_recv hK hP (ci := 3) (q0 := 1) rfl rfl) (cw_down G hP hD hS hA [1, 2] rfl rfl) ⟨Nat.le_of_ble_eq_true rfl, Nat.le_of_ble_eq_true rfl⟩ rfl hl.1 (Nat.le_of_ble_eq_true rfl) d_S_addKind_33 ⟨(by first | exact Nat.le_of_ble_eq_true rfl | (dsimp only; omega) | omega), (by first | exact Nat.le_of_ble_eq_true rfl | (dsimp only; omega) | omega)⟩) hP hD hS hA [1, 2] [0] rfl rfl rfl (by decide) (fun r_7 w1 H locs hp hP hD hS => ?_)
      obtain ⟨er, v_8, f_8, rfl, ht_8⟩ := hp
      rw [er]
      have hge_9 := ht_8.2.2.1
      have hgf_9 : (xs ++ li_x 31).length = (xs.length + (li_x 31).length) := by rw [List.length_append]
      have hP : va_P (gD g) classes [(s0, .inr (1, [.ref b])), (b, .inr (3, [.ref v_8, .int 0, .int ml, .int (nI (xs ++ li_x 31).length)])), (v_8, .inl (gB g, (sb_cap (xs.length + (li_x 31).length) cp), .inl f_8))] H := hP
      have hD : va_D A [(s0, .inr (1, [.ref b])), (b, .inr (3, [.ref v_8, .int 0, .int ml, .int (nI (xs ++ li_x 31).length)])), (v_8, .inl (gB g, (sb_cap (xs.length + (li_x 31).length) cp), .inl f_8))] := hD
      refine lv_pop hx hb d_S_addKind_36 rfl ?_
      have e : z_S_addKind xs t = (xs ++ li_x 31) := by rw [z_S_addKind, if_pos c_2, if_pos c_4]
      exact ret_v hx hb hr hlk (hP.sub (ws' := [(s0, .inr (1, [.ref b])), (b, .inr (3, [.ref v_8, .int 0, .int ml, .int (nI (xs ++ li_x 31).length)])), (v_8, .inl (gB g, (sb_cap (xs.length + (li_x 31).length) cp), .inl f_8))]) [0, 1, 2] rfl) (hD.sub (ws' := [(s0, .inr (1, [.ref b])), (b, .inr (3, [.ref v_8, .int 0, .int ml, .int (nI (xs ++ li_x 31).length)])), (v_8, .inl (gB g, (sb_cap (xs.length + (li_x 31).length) cp), .inl f_8))]) [0, 1, 2] rfl rfl) hS ⟨_, _, _, _, by rw [e], by rw [e]; exact ht_8, by rw [e]; omega⟩ (by first | exact Nat.le_of_ble_eq_true rfl | (dsimp only; omega) | omega) (by first | exact Nat.le_of_ble_eq_true rfl | (dsimp only; omega) | omega) d_S_addKind_37
  · skip
    refine lv_aload_n hx hb d_S_addKind_7 rfl (lv_at hl 0 rfl) ?_
    refine va_get (D := gD g) (ci := 1) (v := .ref b) (C := R_S) (T := F_S) (N := 1) hx hb hF.2.2.2.2 in_S hF.2.2.2.1 hK hP 0 rfl rfl 0 (by decide) (hF.2.2.2.2 _ fl_S_12) (fun _ h9 => h9) rfl d_S_addKind_8 ?_
    refine va_ldcS hx hb hF.2.2.2.1 (lr_30 G) d_S_addKind_11 ?_
    have h21_10 := li_40 30 (by decide)
    have hga_11 := gc_le (xs.length + (li_x 30).length) cp (by omega)
    have hgb_11 := gs_le (xs.length + (li_x 30).length) cp
    have hgd_11 := sb_cap_gem (xs.length + (li_x 30).length) cp
    have hgc_11 := cap_le (xs.length + (li_x 30).length) cp (by omega) (by omega)
    refine go_r (wr := [(s0, .inr (1, [.ref b]))]) (run_V hF (c_SB_append_S g l _ b v cp ml a xs ht 30 (by decide) (by omega)) k_SB_append_S j_S_61 se_SB_SB_append_S (va_recv hK hP (ci := 3) (q0 := 1) rfl rfl) (cw_down G hP hD hS hA [1, 2] rfl rfl) ⟨Nat.le_of_ble_eq_true rfl, Nat.le_of_ble_eq_true rfl⟩ rfl hl.1 (Nat.le_of_ble_eq_true rfl) d_S_addKind_13 ⟨(by first | exact Nat.le_of_ble_eq_true rfl | (dsimp only; omega) | omega), (by first | exact Nat.le_of_ble_eq_true rfl | (dsimp only; omega) | omega)⟩) hP hD hS hA [1, 2] [0] rfl rfl rfl (by decide) (fun r_12 w1 H locs hp hP hD hS => ?_)
    obtain ⟨er, v_13, f_13, rfl, ht_13⟩ := hp
    rw [er]
    have hge_14 := ht_13.2.2.1
    have hgf_14 : (xs ++ li_x 30).length = (xs.length + (li_x 30).length) := by rw [List.length_append]
    have hP : va_P (gD g) classes [(s0, .inr (1, [.ref b])), (b, .inr (3, [.ref v_13, .int 0, .int ml, .int (nI (xs ++ li_x 30).length)])), (v_13, .inl (gB g, (sb_cap (xs.length + (li_x 30).length) cp), .inl f_13))] H := hP
    have hD : va_D A [(s0, .inr (1, [.ref b])), (b, .inr (3, [.ref v_13, .int 0, .int ml, .int (nI (xs ++ li_x 30).length)])), (v_13, .inl (gB g, (sb_cap (xs.length + (li_x 30).length) cp), .inl f_13))] := hD
    refine lv_pop hx hb d_S_addKind_16 rfl ?_
    refine lv_goto (tgt := 37) hx hb d_S_addKind_17 (by decide) ?_
    have e : z_S_addKind xs t = (xs ++ li_x 30) := by rw [z_S_addKind, if_neg c_2]
    exact ret_v hx hb hr hlk (hP.sub (ws' := [(s0, .inr (1, [.ref b])), (b, .inr (3, [.ref v_13, .int 0, .int ml, .int (nI (xs ++ li_x 30).length)])), (v_13, .inl (gB g, (sb_cap (xs.length + (li_x 30).length) cp), .inl f_13))]) [0, 1, 2] rfl) (hD.sub (ws' := [(s0, .inr (1, [.ref b])), (b, .inr (3, [.ref v_13, .int 0, .int ml, .int (nI (xs ++ li_x 30).length)])), (v_13, .inl (gB g, (sb_cap (xs.length + (li_x 30).length) cp), .inl f_13))]) [0, 1, 2] rfl rfl) hS ⟨_, _, _, _, by rw [e], by rw [e]; exact ht_13, by rw [e]; omega⟩ (by first | exact Nat.le_of_ble_eq_true rfl | (dsimp only; omega) | omega) (by first | exact Nat.le_of_ble_eq_true rfl | (dsimp only; omega) | omega) d_S_addKind_37
def z_S_addWord (xs : List Nat) (x : Int32) (i : Nat) : List Nat := (if x = 0 then xs else (if (nI xs.length) ≤ 0 then (xs ++ li_x i) else ((xs ++ [32]) ++ li_x i)))
set_option maxRecDepth 100000 in
theorem k_S_addWord : ck y_S_addWord b_S_addWord 3 (none) 2 (.instanceMethod y_S_addWord) := ⟨tk_of (List.mem_of_getElem? (i := 418) rfl) rfl, tk_of (List.mem_of_getElem? (i := 417) (by decide +kernel)) rfl, tk_of (List.mem_of_getElem? (i := 37) (by decide +kernel)) rfl, by decide +kernel⟩
theorem j_S_18 : Cond.methodLink R_S 18 y_SB_length ∈ tk := tk_of (List.mem_of_getElem? (i := 419) (by decide +kernel)) rfl
theorem se_SB_SB_length : Cond.selects R_SB y_SB_length y_SB_length ∈ tk := tk_of (List.mem_of_getElem? (i := 421) (by decide +kernel)) rfl
set_option maxHeartbeats 4000000 in
set_option maxRecDepth 100000 in
theorem c_S_addWord (g : gT) (l : Launch) (sz : Nat) (s0 b v cp : Nat) (ml : Int32) (a : Nat → Int32) (xs : List Nat) (ht : tx xs cp a) (x : Int32) (i : Nat) (hlen : xs.length + ((li_x i).length + 1) ≤ 70) (hi : i < 41) : Mg g l y_S_addWord b_S_addWord 3 (none) 6 148 7 252 [.ref s0, .int x, .ref (gK g i)] [(s0, .inr (1, [.ref b])), (b, .inr (3, [.ref v, .int 0, .int ml, .int (nI xs.length)])), (v, .inl (gB g, cp, .inl a))] sz (qV g (fun w1 => ∃ (v' cp' : Nat) (ml' : Int32) (f : Nat → Int32), w1 = [(s0, .inr (1, [.ref b])), (b, .inr (3, [.ref v', .int 0, .int ml', .int (nI (z_S_addWord xs x i).length)])), (v', .inl (gB g, cp', .inl f))] ∧ tx (z_S_addWord xs x i) cp' f ∧ (z_S_addWord xs x i).length ≤ xs.length + ((li_x i).length + 1))) := by
  refine mg_of (by decide) (Nat.le_of_ble_eq_true rfl) ?_
  intro p e s m below meth c ls A hx hb hF hr hlk hnm hA G hP hD hS hl
  have hK := G.2.1
  have hN := G.1
  have hl : lv_has ls 3 [(0, .ref s0), (1, .int x), (2, .ref (gK g i))] := hl
  have ht1 := ht.1
  have ht2 := ht.2.1
  have ht3 := ht.2.2.1
  have h21 := li_40 i hi
  refine lv_iload_n hx hb d_S_addWord_0 rfl (lv_at hl 1 rfl) ?_
  refine lv_if_ne (tgt := 5) hx hb d_S_addWord_1 (by decide) (fun c_1 => ?_) (fun c_1 => ?_)
  · skip
    refine lv_aload_n hx hb d_S_addWord_5 rfl (lv_at hl 0 rfl) ?_
    refine va_get (D := gD g) (ci := 1) (v := .ref b) (C := R_S) (T := F_S) (N := 1) hx hb hF.2.2.2.2 in_S hF.2.2.2.1 hK hP 0 rfl rfl 0 (by decide) (hF.2.2.2.2 _ fl_S_12) (fun _ h9 => h9) rfl d_S_addWord_6 ?_
    refine go_i (wr := [(s0, .inr (1, [.ref b]))]) (run_V hF (c_SB_length g l _ b v xs.length cp ml a) k_SB_length j_S_18 se_SB_SB_length (va_recv hK hP (ci := 3) (q0 := 1) rfl rfl) (cw_down G hP hD hS hA [1, 2] rfl rfl) ⟨Nat.le_of_ble_eq_true rfl, Nat.le_of_ble_eq_true rfl⟩ rfl hl.1 (Nat.le_of_ble_eq_true rfl) d_S_addWord_9 ⟨(by first | exact Nat.le_of_ble_eq_true rfl | (dsimp only; omega) | omega), (by first | exact Nat.le_of_ble_eq_true rfl | (dsimp only; omega) | omega)⟩) hP hD hS hA [1, 2] [0] rfl rfl rfl (by decide) (fun r_2 w1 H locs hp hP hD hS => ?_)
    obtain ⟨rfl, rfl⟩ := hp
    have hP : va_P (gD g) classes [(s0, .inr (1, [.ref b])), (b, .inr (3, [.ref v, .int 0, .int ml, .int (nI xs.length)])), (v, .inl (gB g, cp, .inl a))] H := hP
    have hD : va_D A [(s0, .inr (1, [.ref b])), (b, .inr (3, [.ref v, .int 0, .int ml, .int (nI xs.length)])), (v, .inl (gB g, cp, .inl a))] := hD
    refine lv_if_le (tgt := 25) hx hb d_S_addWord_12 (by decide) (fun c_3 => ?_) (fun c_3 => ?_)
    · skip
      refine lv_aload_n hx hb d_S_addWord_25 rfl (lv_at hl 0 rfl) ?_
      refine va_get (D := gD g) (ci := 1) (v := .ref b) (C := R_S) (T := F_S) (N := 1) hx hb hF.2.2.2.2 in_S hF.2.2.2.1 hK hP 0 rfl rfl 0 (by decide) (hF.2.2.2.2 _ fl_S_12) (fun _ h9 => h9) rfl d_S_addWord_26 ?_
      refine lv_aload_n hx hb d_S_addWord_29 rfl (lv_at hl 2 rfl) ?_
      have h21_4 := li_40 i hi
      have hga_5 := gc_le (xs.length + (li_x i).length) cp (by omega)
      have hgb_5 := gs_le (xs.length + (li_x i).length) cp
      have hgd_5 := sb_cap_gem (xs.length + (li_x i).length) cp
      have hgc_5 := cap_le (xs.length + (li_x i).length) cp (by omega) (by omega)
      refine go_r (wr := [(s0, .inr (1, [.ref b]))]) (run_V hF (c_SB_append_S g l _ b v cp ml a xs ht i hi (by omega)) k_SB_append_S j_S_61 se_SB_SB_append_S (va_recv hK hP (ci := 3) (q0 := 1) rfl rfl) (cw_down G hP hD hS hA [1, 2] rfl rfl) ⟨Nat.le_of_ble_eq_true rfl, Nat.le_of_ble_eq_true rfl⟩ rfl hl.1 (Nat.le_of_ble_eq_true rfl) d_S_addWord_30 ⟨(by first | exact Nat.le_of_ble_eq_true rfl | (dsimp only; omega) | omega), (by first | exact Nat.le_of_ble_eq_true rfl | (dsimp only; omega) | omega)⟩) hP hD hS hA [1, 2] [0] rfl rfl rfl (by decide) (fun r_6 w1 H locs hp hP hD hS => ?_)
      obtain ⟨er, v_7, f_7, rfl, ht_7⟩ := hp
      rw [er]
      have hge_8 := ht_7.2.2.1
      have hgf_8 : (xs ++ li_x i).length = (xs.length + (li_x i).length) := by rw [List.length_append]
      have hP : va_P (gD g) classes [(s0, .inr (1, [.ref b])), (b, .inr (3, [.ref v_7, .int 0, .int ml, .int (nI (xs ++ li_x i).length)])), (v_7, .inl (gB g, (sb_cap (xs.length + (li_x i).length) cp), .inl f_7))] H := hP
      have hD : va_D A [(s0, .inr (1, [.ref b])), (b, .inr (3, [.ref v_7, .int 0, .int ml, .int (nI (xs ++ li_x i).length)])), (v_7, .inl (gB g, (sb_cap (xs.length + (li_x i).length) cp), .inl f_7))] := hD
      refine lv_pop hx hb d_S_addWord_33 rfl ?_
      have e : z_S_addWord xs x i = (xs ++ li_x i) := by rw [z_S_addWord, if_neg c_1, if_pos c_3]
      exact ret_v hx hb hr hlk (hP.sub (ws' := [(s0, .inr (1, [.ref b])), (b, .inr (3, [.ref v_7, .int 0, .int ml, .int (nI (xs ++ li_x i).length)])), (v_7, .inl (gB g, (sb_cap (xs.length + (li_x i).length) cp), .inl f_7))]) [0, 1, 2] rfl) (hD.sub (ws' := [(s0, .inr (1, [.ref b])), (b, .inr (3, [.ref v_7, .int 0, .int ml, .int (nI (xs ++ li_x i).length)])), (v_7, .inl (gB g, (sb_cap (xs.length + (li_x i).length) cp), .inl f_7))]) [0, 1, 2] rfl rfl) hS ⟨_, _, _, _, by rw [e], by rw [e]; exact ht_7, by rw [e]; omega⟩ (by first | exact Nat.le_of_ble_eq_true rfl | (dsimp only; omega) | omega) (by first | exact Nat.le_of_ble_eq_true rfl | (dsimp only; omega) | omega) d_S_addWord_34
    · skip
      refine lv_aload_n hx hb d_S_addWord_15 rfl (lv_at hl 0 rfl) ?_
      refine va_get (D := gD g) (ci := 1) (v := .ref b) (C := R_S) (T := F_S) (N := 1) hx hb hF.2.2.2.2 in_S hF.2.2.2.1 hK hP 0 rfl rfl 0 (by decide) (hF.2.2.2.2 _ fl_S_12) (fun _ h9 => h9) rfl d_S_addWord_16 ?_
      refine lv_bipush (v := 32) hx hb d_S_addWord_19 (by decide) ?_
      have hga_9 := gc_le (xs.length + 1) cp (by omega)
      have hgb_9 := gs_le (xs.length + 1) cp
      have hgd_9 := sb_cap_gem (xs.length + 1) cp
      have hgc_9 := cap_le (xs.length + 1) cp (by omega) (by omega)
      refine go_r (wr := [(s0, .inr (1, [.ref b]))]) (run_V hF (c_SB_append_C g l _ b v cp ml a xs ht 32 (by decide) (by omega)) k_SB_append_C j_S_88 se_SB_SB_append_C (va_recv hK hP (ci := 3) (q0 := 1) rfl rfl) (cw_down G hP hD hS hA [1, 2] rfl rfl) ⟨Nat.le_of_ble_eq_true rfl, Nat.le_of_ble_eq_true rfl⟩ rfl hl.1 (Nat.le_of_ble_eq_true rfl) d_S_addWord_21 ⟨(by first | exact Nat.le_of_ble_eq_true rfl | (dsimp only; omega) | omega), (by first | exact Nat.le_of_ble_eq_true rfl | (dsimp only; omega) | omega)⟩) hP hD hS hA [1, 2] [0] rfl rfl rfl (by decide) (fun r_10 w1 H locs hp hP hD hS => ?_)
      obtain ⟨er, v_11, f_11, rfl, ht_11⟩ := hp
      rw [er]
      have hge_12 := ht_11.2.2.1
      have hgf_12 : (xs ++ [32]).length = (xs.length + 1) := by rw [List.length_append]; rfl
      have hP : va_P (gD g) classes [(s0, .inr (1, [.ref b])), (b, .inr (3, [.ref v_11, .int 0, .int ml, .int (nI (xs ++ [32]).length)])), (v_11, .inl (gB g, (sb_cap (xs.length + 1) cp), .inl f_11))] H := hP
      have hD : va_D A [(s0, .inr (1, [.ref b])), (b, .inr (3, [.ref v_11, .int 0, .int ml, .int (nI (xs ++ [32]).length)])), (v_11, .inl (gB g, (sb_cap (xs.length + 1) cp), .inl f_11))] := hD
      refine lv_pop hx hb d_S_addWord_24 rfl ?_
      refine lv_aload_n hx hb d_S_addWord_25 rfl (lv_at hl 0 rfl) ?_
      refine va_get (D := gD g) (ci := 1) (v := .ref b) (C := R_S) (T := F_S) (N := 1) hx hb hF.2.2.2.2 in_S hF.2.2.2.1 hK hP 0 rfl rfl 0 (by decide) (hF.2.2.2.2 _ fl_S_12) (fun _ h9 => h9) rfl d_S_addWord_26 ?_
      refine lv_aload_n hx hb d_S_addWord_29 rfl (lv_at hl 2 rfl) ?_
      have h21_13 := li_40 i hi
      have hga_14 := gc_le ((xs ++ [32]).length + (li_x i).length) (sb_cap (xs.length + 1) cp) (by omega)
      have hgb_14 := gs_le ((xs ++ [32]).length + (li_x i).length) (sb_cap (xs.length + 1) cp)
      have hgd_14 := sb_cap_gem ((xs ++ [32]).length + (li_x i).length) (sb_cap (xs.length + 1) cp)
      have hgc_14 := cap_le ((xs ++ [32]).length + (li_x i).length) (sb_cap (xs.length + 1) cp) (by omega) (by omega)
      refine go_r (wr := [(s0, .inr (1, [.ref b]))]) (run_V hF (c_SB_append_S g l _ b v_11 (sb_cap (xs.length + 1) cp) ml f_11 (xs ++ [32]) ht_11 i hi (by omega)) k_SB_append_S j_S_61 se_SB_SB_append_S (va_recv hK hP (ci := 3) (q0 := 1) rfl rfl) (cw_down G hP hD hS hA [1, 2] rfl rfl) ⟨Nat.le_of_ble_eq_true rfl, Nat.le_of_ble_eq_true rfl⟩ rfl hl.1 (Nat.le_of_ble_eq_true rfl) d_S_addWord_30 ⟨(by first | exact Nat.le_of_ble_eq_true rfl | (dsimp only; omega) | omega), (by first | exact Nat.le_of_ble_eq_true rfl | (dsimp only; omega) | omega)⟩) hP hD hS hA [1, 2] [0] rfl rfl rfl (by decide) (fun r_15 w1 H locs hp hP hD hS => ?_)
      obtain ⟨er, v_16, f_16, rfl, ht_16⟩ := hp
      rw [er]
      have hge_17 := ht_16.2.2.1
      have hgf_17 : ((xs ++ [32]) ++ li_x i).length = ((xs ++ [32]).length + (li_x i).length) := by rw [List.length_append]
      have hP : va_P (gD g) classes [(s0, .inr (1, [.ref b])), (b, .inr (3, [.ref v_16, .int 0, .int ml, .int (nI ((xs ++ [32]) ++ li_x i).length)])), (v_16, .inl (gB g, (sb_cap ((xs ++ [32]).length + (li_x i).length) (sb_cap (xs.length + 1) cp)), .inl f_16))] H := hP
      have hD : va_D A [(s0, .inr (1, [.ref b])), (b, .inr (3, [.ref v_16, .int 0, .int ml, .int (nI ((xs ++ [32]) ++ li_x i).length)])), (v_16, .inl (gB g, (sb_cap ((xs ++ [32]).length + (li_x i).length) (sb_cap (xs.length + 1) cp)), .inl f_16))] := hD
      refine lv_pop hx hb d_S_addWord_33 rfl ?_
      have e : z_S_addWord xs x i = ((xs ++ [32]) ++ li_x i) := by rw [z_S_addWord, if_neg c_1, if_neg c_3]
      exact ret_v hx hb hr hlk (hP.sub (ws' := [(s0, .inr (1, [.ref b])), (b, .inr (3, [.ref v_16, .int 0, .int ml, .int (nI ((xs ++ [32]) ++ li_x i).length)])), (v_16, .inl (gB g, (sb_cap ((xs ++ [32]).length + (li_x i).length) (sb_cap (xs.length + 1) cp)), .inl f_16))]) [0, 1, 2] rfl) (hD.sub (ws' := [(s0, .inr (1, [.ref b])), (b, .inr (3, [.ref v_16, .int 0, .int ml, .int (nI ((xs ++ [32]) ++ li_x i).length)])), (v_16, .inl (gB g, (sb_cap ((xs ++ [32]).length + (li_x i).length) (sb_cap (xs.length + 1) cp)), .inl f_16))]) [0, 1, 2] rfl rfl) hS ⟨_, _, _, _, by rw [e], by rw [e]; exact ht_16, by rw [e]; omega⟩ (by first | exact Nat.le_of_ble_eq_true rfl | (dsimp only; omega) | omega) (by first | exact Nat.le_of_ble_eq_true rfl | (dsimp only; omega) | omega) d_S_addWord_34
  · skip
    have e : z_S_addWord xs x i = xs := by rw [z_S_addWord, if_pos c_1]
    exact ret_v hx hb hr hlk (hP.sub (ws' := [(s0, .inr (1, [.ref b])), (b, .inr (3, [.ref v, .int 0, .int ml, .int (nI xs.length)])), (v, .inl (gB g, cp, .inl a))]) [0, 1, 2] rfl) (hD.sub (ws' := [(s0, .inr (1, [.ref b])), (b, .inr (3, [.ref v, .int 0, .int ml, .int (nI xs.length)])), (v, .inl (gB g, cp, .inl a))]) [0, 1, 2] rfl rfl) hS ⟨_, _, _, _, by rw [e], by rw [e]; exact ht, by rw [e]; omega⟩ (by first | exact Nat.le_of_ble_eq_true rfl | (dsimp only; omega) | omega) (by first | exact Nat.le_of_ble_eq_true rfl | (dsimp only; omega) | omega) d_S_addWord_4
