theorem q_lt {d n : Nat} (h : d ≤ n) (hn : n ≤ 1000) (h2 : ¬ nI d = nI n) : d < n := by
  rcases Nat.lt_or_ge d n with q | q
  · exact q
  · exact absurd (by rw [show d = n by omega]) h2
def f_Q_code (xs : List Nat) (d : Nat) : Int32 := (if (nI d) = (nI xs.length) then (-4) else (if (f_ix (xs.getD d 0)) < 0 then (-4) else (if (f_ix (xs.getD d 0)) = 8 then (-4) else (f_B_arrayOf (f_ix (xs.getD d 0)) (nI d)))))
set_option maxRecDepth 100000 in
theorem k_Q_lookUpCode : ck y_Q_lookUpCode b_Q_lookUpCode 3 (some .int) 1 (.instanceMethod y_Q_lookUpCode) := ⟨tk_of (List.mem_of_getElem? (i := 578) rfl) rfl, tk_of (List.mem_of_getElem? (i := 577) (by decide +kernel)) rfl, tk_of (List.mem_of_getElem? (i := 42) (by decide +kernel)) rfl, by decide +kernel⟩
theorem lr_40 {g : gT} {A : Nat → Prop} {s : State} {H : Heap} (G : Gx g A s H) : vk_R R_Q 68 "ZBCSIJFDV" (gK g 40) s := G.2.2.1 40 ("ClassProbe$Query", 68, "ZBCSIJFDV") (by decide +kernel)
theorem j_Q_37 : Cond.methodLink R_Q 37 y_SB_charAt ∈ tk := tk_of (List.mem_of_getElem? (i := 560) (by decide +kernel)) rfl
theorem j_Q_70 : Cond.methodLink R_Q 70 y_St_indexOf_I ∈ tk := tk_of (List.mem_of_getElem? (i := 580) (by decide +kernel)) rfl
theorem se_St_St_indexOf_I : Cond.selects R_St y_St_indexOf_I y_St_indexOf_I ∈ tk := tk_of (List.mem_of_getElem? (i := 582) (by decide +kernel)) rfl
theorem j_Q_62 : Cond.methodLinkNest R_Q 62 y_B_arrayOf R_P ∈ nw_l := nw_of (List.mem_of_getElem? (i := 573) (by decide +kernel)) rfl
set_option maxHeartbeats 4000000 in
set_option maxRecDepth 100000 in
theorem c_Q_lookUpCode (g : gT) (l : Launch) (sz : Nat) (q0 b v cp : Nat) (ml : Int32) (a : Nat → Int32) (xs : List Nat) (ht : tx xs cp a) (d : Nat) (hd : d ≤ xs.length) : Mg g l y_Q_lookUpCode b_Q_lookUpCode 3 (some .int) 4 91 0 0 [.ref q0, .int (nI d)] [(q0, .inr (2, [.ref b])), (b, .inr (3, [.ref v, .int 0, .int ml, .int (nI xs.length)])), (v, .inl (gB g, cp, .inl a))] sz (qI g (fun r w1 => r = f_Q_code xs d ∧ w1 = [(q0, .inr (2, [.ref b])), (b, .inr (3, [.ref v, .int 0, .int ml, .int (nI xs.length)])), (v, .inl (gB g, cp, .inl a))])) := by
  refine mg_of (by decide) (Nat.le_of_ble_eq_true rfl) ?_
  intro p e s m below meth c ls A hx hb hF hr hlk hnm hA G hP hD hS hl
  have hK := G.2.1
  have hN := G.1
  have hl : lv_has ls 3 [(0, .ref q0), (1, .int (nI d))] := hl
  have ht1 := ht.1
  have ht2 := ht.2.1
  have ht3 := ht.2.2.1
  refine lv_iload_n hx hb d_Q_lookUpCode_0 rfl (lv_at hl 1 rfl) ?_
  refine lv_aload_n hx hb d_Q_lookUpCode_1 rfl (lv_at hl 0 rfl) ?_
  refine va_get (D := gD g) (ci := 2) (v := .ref b) (C := R_Q) (T := F_Q) (N := 1) hx hb hF.2.2.2.2 in_Q hF.2.2.2.1 hK hP 0 rfl rfl 0 (by decide) (hF.2.2.2.2 _ fl_Q_12) (fun _ h9 => h9) rfl d_Q_lookUpCode_2 ?_
  refine go_i (wr := [(q0, .inr (2, [.ref b]))]) (run_V hF (c_SB_length g l _ b v xs.length cp ml a) k_SB_length j_Q_18 se_SB_SB_length (va_recv hK hP (ci := 3) (q0 := 1) rfl rfl) (cw_down G hP hD hS hA [1, 2] rfl rfl) ⟨Nat.le_of_ble_eq_true rfl, Nat.le_of_ble_eq_true rfl⟩ rfl hl.1 (Nat.le_of_ble_eq_true rfl) d_Q_lookUpCode_5 ⟨(by first | exact Nat.le_of_ble_eq_true rfl | (dsimp only; omega) | omega), (by first | exact Nat.le_of_ble_eq_true rfl | (dsimp only; omega) | omega)⟩) hP hD hS hA [1, 2] [0] rfl rfl rfl (by decide) (fun r_1 w1 H locs hp hP hD hS => ?_)
  obtain ⟨rfl, rfl⟩ := hp
  have hP : va_P (gD g) classes [(q0, .inr (2, [.ref b])), (b, .inr (3, [.ref v, .int 0, .int ml, .int (nI xs.length)])), (v, .inl (gB g, cp, .inl a))] H := hP
  have hD : va_D A [(q0, .inr (2, [.ref b])), (b, .inr (3, [.ref v, .int 0, .int ml, .int (nI xs.length)])), (v, .inl (gB g, cp, .inl a))] := hD
  refine lv_icmp_ne (tgt := 14) hx hb d_Q_lookUpCode_8 (by decide) (fun c_2 => ?_) (fun c_2 => ?_)
  · skip
    refine va_ldcS hx hb hF.2.2.2.1 (lr_40 G) d_Q_lookUpCode_14 ?_
    refine lv_aload_n hx hb d_Q_lookUpCode_16 rfl (lv_at hl 0 rfl) ?_
    refine va_get (D := gD g) (ci := 2) (v := .ref b) (C := R_Q) (T := F_Q) (N := 1) hx hb hF.2.2.2.2 in_Q hF.2.2.2.1 hK hP 0 rfl rfl 0 (by decide) (hF.2.2.2.2 _ fl_Q_12) (fun _ h9 => h9) rfl d_Q_lookUpCode_17 ?_
    refine lv_iload_n hx hb d_Q_lookUpCode_20 rfl (lv_at hl 1 rfl) ?_
    refine go_i (wr := [(q0, .inr (2, [.ref b]))]) (run_V hF (c_SB_charAt g l _ b v cp ml a xs ht d (q_lt hd (by omega) c_2)) k_SB_charAt j_Q_37 se_SB_SB_charAt (va_recv hK hP (ci := 3) (q0 := 1) rfl rfl) (cw_down G hP hD hS hA [1, 2] rfl rfl) ⟨Nat.le_of_ble_eq_true rfl, Nat.le_of_ble_eq_true rfl⟩ rfl hl.1 (Nat.le_of_ble_eq_true rfl) d_Q_lookUpCode_21 ⟨(by first | exact Nat.le_of_ble_eq_true rfl | (dsimp only; omega) | omega), (by first | exact Nat.le_of_ble_eq_true rfl | (dsimp only; omega) | omega)⟩) hP hD hS hA [1, 2] [0] rfl rfl rfl (by decide) (fun r_3 w1 H locs hp hP hD hS => ?_)
    obtain ⟨rfl, rfl⟩ := hp
    have hP : va_P (gD g) classes [(q0, .inr (2, [.ref b])), (b, .inr (3, [.ref v, .int 0, .int ml, .int (nI xs.length)])), (v, .inl (gB g, cp, .inl a))] H := hP
    have hD : va_D A [(q0, .inr (2, [.ref b])), (b, .inr (3, [.ref v, .int 0, .int ml, .int (nI xs.length)])), (v, .inl (gB g, cp, .inl a))] := hD
    refine go_i (wr := [(q0, .inr (2, [.ref b])), (b, .inr (3, [.ref v, .int 0, .int ml, .int (nI xs.length)])), (v, .inl (gB g, cp, .inl a))]) (run_V hF (c_St_indexOf_I g l _ (xs.getD d 0) (tx_ch ht _)) k_St_indexOf_I j_Q_70 se_St_St_indexOf_I (va_Orecv (G.2.2.2.1 40 (by decide)).1 hS) (cw_down G hP hD hS hA [] rfl rfl) ⟨Nat.le_of_ble_eq_true rfl, Nat.le_of_ble_eq_true rfl⟩ rfl hl.1 (Nat.le_of_ble_eq_true rfl) d_Q_lookUpCode_24 ⟨(by first | exact Nat.le_of_ble_eq_true rfl | (dsimp only; omega) | omega), (by first | exact Nat.le_of_ble_eq_true rfl | (dsimp only; omega) | omega)⟩) hP hD hS hA [] [0, 1, 2] rfl rfl rfl (by decide) (fun r_4 w1 H locs hp hP hD hS => ?_)
    obtain ⟨rfl, rfl⟩ := hp
    have hP : va_P (gD g) classes [(q0, .inr (2, [.ref b])), (b, .inr (3, [.ref v, .int 0, .int ml, .int (nI xs.length)])), (v, .inl (gB g, cp, .inl a))] H := hP
    have hD : va_D A [(q0, .inr (2, [.ref b])), (b, .inr (3, [.ref v, .int 0, .int ml, .int (nI xs.length)])), (v, .inl (gB g, cp, .inl a))] := hD
    refine lv_istore_n (lv' := [(2, .int (f_ix (xs.getD d 0))), (0, .ref q0), (1, .int (nI d))]) hx hb d_Q_lookUpCode_27 rfl hl (by decide) rfl (fun ls hl => ?_)
    refine lv_iload_n hx hb d_Q_lookUpCode_28 rfl (lv_at hl 0 rfl) ?_
    refine lv_if_lt (tgt := 38) hx hb d_Q_lookUpCode_29 (by decide) (fun c_5 => ?_) (fun c_5 => ?_)
    · skip
      refine lv_bipush (v := (-4)) hx hb d_Q_lookUpCode_38 (by decide) ?_
      refine lv_goto (tgt := 48) hx hb d_Q_lookUpCode_40 (by decide) ?_
      exact ret_i hx hb hr hlk (hP.sub (ws' := [(q0, .inr (2, [.ref b])), (b, .inr (3, [.ref v, .int 0, .int ml, .int (nI xs.length)])), (v, .inl (gB g, cp, .inl a))]) [0, 1, 2] rfl) (hD.sub (ws' := [(q0, .inr (2, [.ref b])), (b, .inr (3, [.ref v, .int 0, .int ml, .int (nI xs.length)])), (v, .inl (gB g, cp, .inl a))]) [0, 1, 2] rfl rfl) hS (nar_i _) ⟨by rw [f_Q_code, if_neg c_2, if_pos c_5], rfl⟩ (by first | exact Nat.le_of_ble_eq_true rfl | (dsimp only; omega) | omega) (by first | exact Nat.le_of_ble_eq_true rfl | (dsimp only; omega) | omega) d_Q_lookUpCode_48
    · skip
      refine lv_iload_n hx hb d_Q_lookUpCode_32 rfl (lv_at hl 0 rfl) ?_
      refine lv_bipush (v := 8) hx hb d_Q_lookUpCode_33 (by decide) ?_
      refine lv_icmp_ne (tgt := 43) hx hb d_Q_lookUpCode_35 (by decide) (fun c_6 => ?_) (fun c_6 => ?_)
      · skip
        refine lv_iload_n hx hb d_Q_lookUpCode_43 rfl (lv_at hl 0 rfl) ?_
        refine lv_iload_n hx hb d_Q_lookUpCode_44 rfl (lv_at hl 2 rfl) ?_
        refine pm_callNE hF hN (c_B_arrayOf l (f_ix (xs.getD d 0)) (nI d)) k_B_arrayOf j_Q_62 ⟨Nat.le_of_ble_eq_true rfl, Nat.le_of_ble_eq_true rfl⟩ rfl hl.1 (Nat.le_of_ble_eq_true rfl) d_Q_lookUpCode_45 ⟨by first | exact Nat.le_of_ble_eq_true rfl | (dsimp only; omega) | omega | exact Nat.zero_le _, by first | exact Nat.le_of_ble_eq_true rfl | (dsimp only; omega) | omega | exact Nat.zero_le _⟩ ?_
        exact ret_i hx hb hr hlk (hP.sub (ws' := [(q0, .inr (2, [.ref b])), (b, .inr (3, [.ref v, .int 0, .int ml, .int (nI xs.length)])), (v, .inl (gB g, cp, .inl a))]) [0, 1, 2] rfl) (hD.sub (ws' := [(q0, .inr (2, [.ref b])), (b, .inr (3, [.ref v, .int 0, .int ml, .int (nI xs.length)])), (v, .inl (gB g, cp, .inl a))]) [0, 1, 2] rfl rfl) hS (nar_i _) ⟨by rw [f_Q_code, if_neg c_2, if_neg c_5, if_neg c_6], rfl⟩ (by first | exact Nat.le_of_ble_eq_true rfl | (dsimp only; omega) | omega) (by first | exact Nat.le_of_ble_eq_true rfl | (dsimp only; omega) | omega) d_Q_lookUpCode_48
      · skip
        refine lv_bipush (v := (-4)) hx hb d_Q_lookUpCode_38 (by decide) ?_
        refine lv_goto (tgt := 48) hx hb d_Q_lookUpCode_40 (by decide) ?_
        exact ret_i hx hb hr hlk (hP.sub (ws' := [(q0, .inr (2, [.ref b])), (b, .inr (3, [.ref v, .int 0, .int ml, .int (nI xs.length)])), (v, .inl (gB g, cp, .inl a))]) [0, 1, 2] rfl) (hD.sub (ws' := [(q0, .inr (2, [.ref b])), (b, .inr (3, [.ref v, .int 0, .int ml, .int (nI xs.length)])), (v, .inl (gB g, cp, .inl a))]) [0, 1, 2] rfl rfl) hS (nar_i _) ⟨by rw [f_Q_code, if_neg c_2, if_neg c_5, if_pos c_6], rfl⟩ (by first | exact Nat.le_of_ble_eq_true rfl | (dsimp only; omega) | omega) (by first | exact Nat.le_of_ble_eq_true rfl | (dsimp only; omega) | omega) d_Q_lookUpCode_48
  · skip
    refine lv_bipush (v := (-4)) hx hb d_Q_lookUpCode_11 (by decide) ?_
    exact ret_i hx hb hr hlk (hP.sub (ws' := [(q0, .inr (2, [.ref b])), (b, .inr (3, [.ref v, .int 0, .int ml, .int (nI xs.length)])), (v, .inl (gB g, cp, .inl a))]) [0, 1, 2] rfl) (hD.sub (ws' := [(q0, .inr (2, [.ref b])), (b, .inr (3, [.ref v, .int 0, .int ml, .int (nI xs.length)])), (v, .inl (gB g, cp, .inl a))]) [0, 1, 2] rfl rfl) hS (nar_i _) ⟨by rw [f_Q_code, if_pos c_2], rfl⟩ (by first | exact Nat.le_of_ble_eq_true rfl | (dsimp only; omega) | omega) (by first | exact Nat.le_of_ble_eq_true rfl | (dsimp only; omega) | omega) d_Q_lookUpCode_13
