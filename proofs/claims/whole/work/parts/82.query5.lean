def zg_Q_elem (xs : List Nat) (f q lv : Nat) : Nat → Int32
  | 0 => if (f_Q_standsAt xs 39 f q) = 0 then (-1) else (-4)
  | d + 1 => if (nI (q - f)) = (nI (li_x (f_B_name (nI (25 - (d + 1))))).length) then (if (f_Q_standsAt xs (f_B_name (nI (25 - (d + 1)))) f q) = 0 then zg_Q_elem xs f q lv d else (if (f_B_isPrimitive (nI (25 - (d + 1)))) = 0 then (f_B_arrayOf (nI (25 - (d + 1))) (nI lv)) else (-4))) else zg_Q_elem xs f q lv d
set_option maxRecDepth 100000 in
theorem k_Q_lookUpElement : ck y_Q_lookUpElement b_Q_lookUpElement 6 (some .int) 3 (.instanceMethod y_Q_lookUpElement) := ⟨tk_of (List.mem_of_getElem? (i := 564) rfl) rfl, tk_of (List.mem_of_getElem? (i := 563) (by decide +kernel)) rfl, tk_of (List.mem_of_getElem? (i := 42) (by decide +kernel)) rfl, by decide +kernel⟩
theorem j_Q_45 : Cond.methodLinkNest R_Q 45 y_B_name R_P ∈ nw_l := nw_of (List.mem_of_getElem? (i := 565) (by decide +kernel)) rfl
theorem j_Q_54 : Cond.methodLink R_Q 54 y_Q_standsAt ∈ tk := tk_of (List.mem_of_getElem? (i := 567) (by decide +kernel)) rfl
theorem se_Q_Q_standsAt : Cond.selects R_Q y_Q_standsAt y_Q_standsAt ∈ tk := tk_of (List.mem_of_getElem? (i := 17) (by decide +kernel)) rfl
theorem j_Q_58 : Cond.methodLinkNest R_Q 58 y_B_isPrimitive R_P ∈ nw_l := nw_of (List.mem_of_getElem? (i := 572) (by decide +kernel)) rfl
theorem lr_39 {g : gT} {A : Nat → Prop} {s : State} {H : Heap} (G : Gx g A s H) : vk_R R_Q 66 "ClassProbe$" (gK g 39) s := G.2.2.1 39 ("ClassProbe$Query", 66, "ClassProbe$") (by decide +kernel)
set_option maxHeartbeats 4000000 in
set_option maxRecDepth 100000 in
theorem lp_Q_lookUpElement {p : Program} {l : Launch} {e : Env} {s : State} {m : MethodId} {args : Array Value} {below : List Frame} {meth : Method} {c : Code} {g : gT} {A : Nat → Prop} (q0 b v cp : Nat) (ml : Int32) (a : Nat → Int32) (xs : List Nat) (ht : tx xs cp a) (f q lv : Nat) (hfq : f ≤ q) (hq : q ≤ xs.length) (hx : p.tables.exec = Jvm.exec) (hb : c.code = b_Q_lookUpElement) (hF : CallFix p m c b_Q_lookUpElement 6 s args tk R_Q) (hr : meth.sig.returnType = some .int) (hlk : meth.locks = false) (hA : ∀ q, s.heap.size ≤ q → A q) (G : Gx g A s s.heap) (E : Int32) :
    ∀ (d : Nat) (x : Int32), d ≤ 25 → x = nI (25 - d) → zg_Q_elem xs f q lv d = E → ∀ (H : Heap) (locs : List Loc), va_P (gD g) classes [(q0, .inr (2, [.ref b])), (b, .inr (3, [.ref v, .int 0, .int ml, .int (nI xs.length)])), (v, .inl (gB g, cp, .inl a))] H → va_D A [(q0, .inr (2, [.ref b])), (b, .inr (3, [.ref v, .int 0, .int ml, .int (nI xs.length)])), (v, .inl (gB g, cp, .inl a))] → va_S A s.heap H locs → ∀ ls : Array Slot, lv_has ls 6 [(4, .int x), (0, .ref q0), (1, .int (nI f)), (2, .int (nI q)), (3, .int (nI lv))] → W p l e ({ frames := 5, cells := 0, slots := 0, locals := 112 }) s m args below meth c H locs 0 0 (MQ below (qI g (fun r w1 => r = E ∧ w1 = [(q0, .inr (2, [.ref b])), (b, .inr (3, [.ref v, .int 0, .int ml, .int (nI xs.length)])), (v, .inl (gB g, cp, .inl a))]) A) args s 0 0 A) (F0 m 3 ls []) := by
  have hK := G.2.1
  have hN := G.1
  have ht1 := ht.1
  have ht2 := ht.2.1
  have ht3 := ht.2.2.1
  
  intro d
  induction d with
  | zero =>
    intro x hd ex hp1 H locs hP hD hS ls hl
    have hle : nI 25 ≤ x := by rw [ex]; exact nI_le (by omega) (by omega)
    refine lv_iload hx hb d_Q_lookUpElement_3 (lv_at hl 0 rfl) ?_
    refine lv_bipush (v := 25) hx hb d_Q_lookUpElement_5 (by decide) ?_
    refine lv_icmp_ge (tgt := 65) hx hb d_Q_lookUpElement_7 (by decide) (fun c_1 => ?_) (fun c_1 => absurd hle c_1)
    refine lv_aload_n hx hb d_Q_lookUpElement_65 rfl (lv_at hl 1 rfl) ?_
    refine va_ldcS hx hb hF.2.2.2.1 (lr_39 G) d_Q_lookUpElement_66 ?_
    refine lv_iload_n hx hb d_Q_lookUpElement_68 rfl (lv_at hl 2 rfl) ?_
    refine lv_iload_n hx hb d_Q_lookUpElement_69 rfl (lv_at hl 3 rfl) ?_
    refine go_i (wr := []) (run_V hF (c_Q_standsAt g l _ q0 b v cp ml a xs ht 39 f q (by decide) hfq hq) k_Q_standsAt j_Q_54 se_Q_Q_standsAt (va_recv hK hP (ci := 2) (q0 := 0) rfl rfl) (cw_down G hP hD hS hA [0, 1, 2] rfl rfl) ⟨Nat.le_of_ble_eq_true rfl, Nat.le_of_ble_eq_true rfl⟩ rfl hl.1 (Nat.le_of_ble_eq_true rfl) d_Q_lookUpElement_70 ⟨(by first | exact Nat.le_of_ble_eq_true rfl | (dsimp only; omega) | omega), (by first | exact Nat.le_of_ble_eq_true rfl | (dsimp only; omega) | omega)⟩) hP hD hS hA [0, 1, 2] [] rfl rfl rfl (by decide) (fun r_2 w1 H locs hp hP hD hS => ?_)
    obtain ⟨rfl, rfl⟩ := hp
    have hP : va_P (gD g) classes [(q0, .inr (2, [.ref b])), (b, .inr (3, [.ref v, .int 0, .int ml, .int (nI xs.length)])), (v, .inl (gB g, cp, .inl a))] H := hP
    have hD : va_D A [(q0, .inr (2, [.ref b])), (b, .inr (3, [.ref v, .int 0, .int ml, .int (nI xs.length)])), (v, .inl (gB g, cp, .inl a))] := hD
    refine lv_if_eq (tgt := 81) hx hb d_Q_lookUpElement_73 (by decide) (fun c_3 => ?_) (fun c_3 => ?_)
    · skip
      refine lv_iconst (v := (-1)) hx hb d_Q_lookUpElement_81 (by decide) ?_
      rw [zg_Q_elem, if_pos c_3] at hp1
      exact ret_i hx hb hr hlk (hP.sub (ws' := [(q0, .inr (2, [.ref b])), (b, .inr (3, [.ref v, .int 0, .int ml, .int (nI xs.length)])), (v, .inl (gB g, cp, .inl a))]) [0, 1, 2] rfl) (hD.sub (ws' := [(q0, .inr (2, [.ref b])), (b, .inr (3, [.ref v, .int 0, .int ml, .int (nI xs.length)])), (v, .inl (gB g, cp, .inl a))]) [0, 1, 2] rfl rfl) hS (nar_i _) ⟨hp1, rfl⟩ (by first | exact Nat.le_of_ble_eq_true rfl | (dsimp only; omega) | omega) (by first | exact Nat.le_of_ble_eq_true rfl | (dsimp only; omega) | omega) d_Q_lookUpElement_82
    · skip
      refine lv_bipush (v := (-4)) hx hb d_Q_lookUpElement_76 (by decide) ?_
      refine lv_goto (tgt := 82) hx hb d_Q_lookUpElement_78 (by decide) ?_
      rw [zg_Q_elem, if_neg c_3] at hp1
      exact ret_i hx hb hr hlk (hP.sub (ws' := [(q0, .inr (2, [.ref b])), (b, .inr (3, [.ref v, .int 0, .int ml, .int (nI xs.length)])), (v, .inl (gB g, cp, .inl a))]) [0, 1, 2] rfl) (hD.sub (ws' := [(q0, .inr (2, [.ref b])), (b, .inr (3, [.ref v, .int 0, .int ml, .int (nI xs.length)])), (v, .inl (gB g, cp, .inl a))]) [0, 1, 2] rfl rfl) hS (nar_i _) ⟨hp1, rfl⟩ (by first | exact Nat.le_of_ble_eq_true rfl | (dsimp only; omega) | omega) (by first | exact Nat.le_of_ble_eq_true rfl | (dsimp only; omega) | omega) d_Q_lookUpElement_82
  | succ d ih =>
    intro x hd ex hp1 H locs hP hD hS ls hl
    have hj : (25 - (d + 1)) < 25 := by omega
    have hlt : ¬ nI 25 ≤ x := by rw [ex]; exact nI_ge hj (by omega)
    refine lv_iload hx hb d_Q_lookUpElement_3 (lv_at hl 0 rfl) ?_
    refine lv_bipush (v := 25) hx hb d_Q_lookUpElement_5 (by decide) ?_
    refine lv_icmp_ge (tgt := 65) hx hb d_Q_lookUpElement_7 (by decide) (fun c_1 => absurd c_1 hlt) (fun c_1 => ?_)
    refine lv_iload hx hb d_Q_lookUpElement_10 (lv_at hl 0 rfl) ?_
    refine tp_i ex ?_
    refine go_r (wr := [(q0, .inr (2, [.ref b])), (b, .inr (3, [.ref v, .int 0, .int ml, .int (nI xs.length)])), (v, .inl (gB g, cp, .inl a))]) (run_SN hF G.1 (c_B_name g l _ (nI (25 - (d + 1)))) k_B_name j_Q_45 (cw_down G hP hD hS hA [] rfl rfl) ⟨Nat.le_of_ble_eq_true rfl, Nat.le_of_ble_eq_true rfl⟩ rfl hl.1 (Nat.le_of_ble_eq_true rfl) d_Q_lookUpElement_12 ⟨(by first | exact Nat.le_of_ble_eq_true rfl | (dsimp only; omega) | omega), (by first | exact Nat.le_of_ble_eq_true rfl | (dsimp only; omega) | omega)⟩) hP hD hS hA [] [0, 1, 2] rfl rfl rfl (by decide) (fun r_2 w1 H locs hp hP hD hS => ?_)
    obtain ⟨er, rfl⟩ := hp
    rw [er]
    have hP : va_P (gD g) classes [(q0, .inr (2, [.ref b])), (b, .inr (3, [.ref v, .int 0, .int ml, .int (nI xs.length)])), (v, .inl (gB g, cp, .inl a))] H := hP
    have hD : va_D A [(q0, .inr (2, [.ref b])), (b, .inr (3, [.ref v, .int 0, .int ml, .int (nI xs.length)])), (v, .inl (gB g, cp, .inl a))] := hD
    refine lv_astore (lv' := [(5, .ref (gK g (f_B_name (nI (25 - (d + 1)))))), (4, .int x), (0, .ref q0), (1, .int (nI f)), (2, .int (nI q)), (3, .int (nI lv))]) hx hb d_Q_lookUpElement_15 hl (by decide) rfl (fun ls hl => ?_)
    refine lv_iload_n hx hb d_Q_lookUpElement_17 rfl (lv_at hl 4 rfl) ?_
    refine lv_iload_n hx hb d_Q_lookUpElement_18 rfl (lv_at hl 3 rfl) ?_
    refine lv_isub hx hb d_Q_lookUpElement_19 ?_
    refine tp_i (show ((nI q) - (nI f)) = (nI (q - f)) from pk_sub hfq) ?_
    refine lv_aload hx hb d_Q_lookUpElement_20 (lv_at hl 0 rfl) ?_
    refine go_i (wr := [(q0, .inr (2, [.ref b])), (b, .inr (3, [.ref v, .int 0, .int ml, .int (nI xs.length)])), (v, .inl (gB g, cp, .inl a))]) (run_V hF (c_St_length g l _ (f_B_name (nI (25 - (d + 1)))) (nm_lt (nI (25 - (d + 1))))) k_St_length j_Q_51 se_St_St_length (va_Orecv (G.2.2.2.1 (f_B_name (nI (25 - (d + 1)))) (nm_lt (nI (25 - (d + 1))))).1 hS) (cw_down G hP hD hS hA [] rfl rfl) ⟨Nat.le_of_ble_eq_true rfl, Nat.le_of_ble_eq_true rfl⟩ rfl hl.1 (Nat.le_of_ble_eq_true rfl) d_Q_lookUpElement_22 ⟨(by first | exact Nat.le_of_ble_eq_true rfl | (dsimp only; omega) | omega), (by first | exact Nat.le_of_ble_eq_true rfl | (dsimp only; omega) | omega)⟩) hP hD hS hA [] [0, 1, 2] rfl rfl rfl (by decide) (fun r_3 w1 H locs hp hP hD hS => ?_)
    obtain ⟨rfl, rfl⟩ := hp
    have hP : va_P (gD g) classes [(q0, .inr (2, [.ref b])), (b, .inr (3, [.ref v, .int 0, .int ml, .int (nI xs.length)])), (v, .inl (gB g, cp, .inl a))] H := hP
    have hD : va_D A [(q0, .inr (2, [.ref b])), (b, .inr (3, [.ref v, .int 0, .int ml, .int (nI xs.length)])), (v, .inl (gB g, cp, .inl a))] := hD
    refine lv_icmp_ne (tgt := 59) hx hb d_Q_lookUpElement_25 (by decide) (fun c_4 => ?_) (fun c_4 => ?_)
    · skip
      refine lv_iinc (v := (x + 1)) (lv' := [(4, .int (x + 1)), (5, .ref (gK g (f_B_name (nI (25 - (d + 1)))))), (0, .ref q0), (1, .int (nI f)), (2, .int (nI q)), (3, .int (nI lv))]) hx hb d_Q_lookUpElement_59 hl (k := 1) rfl (by first | rfl | decide) (by decide) rfl (fun ls hl => ?_)
      refine lv_goto (tgt := 3) hx hb d_Q_lookUpElement_62 (by decide) ?_
      exact ih _ (by omega) (by rw [ex, nI_1]; congr 1; omega) (by rw [zg_Q_elem, if_neg c_4] at hp1; exact hp1) _ _ (hP.sub (ws' := [(q0, .inr (2, [.ref b])), (b, .inr (3, [.ref v, .int 0, .int ml, .int (nI xs.length)])), (v, .inl (gB g, cp, .inl a))]) [0, 1, 2] rfl) (hD.sub (ws' := [(q0, .inr (2, [.ref b])), (b, .inr (3, [.ref v, .int 0, .int ml, .int (nI xs.length)])), (v, .inl (gB g, cp, .inl a))]) [0, 1, 2] rfl rfl) hS _ (lv_sub hl [0, 2, 3, 4, 5] rfl)
    · skip
      refine lv_aload_n hx hb d_Q_lookUpElement_28 rfl (lv_at hl 2 rfl) ?_
      refine lv_aload hx hb d_Q_lookUpElement_29 (lv_at hl 0 rfl) ?_
      refine lv_iload_n hx hb d_Q_lookUpElement_31 rfl (lv_at hl 3 rfl) ?_
      refine lv_iload_n hx hb d_Q_lookUpElement_32 rfl (lv_at hl 4 rfl) ?_
      refine go_i (wr := []) (run_V hF (c_Q_standsAt g l _ q0 b v cp ml a xs ht (f_B_name (nI (25 - (d + 1)))) f q (nm_lt (nI (25 - (d + 1)))) hfq hq) k_Q_standsAt j_Q_54 se_Q_Q_standsAt (va_recv hK hP (ci := 2) (q0 := 0) rfl rfl) (cw_down G hP hD hS hA [0, 1, 2] rfl rfl) ⟨Nat.le_of_ble_eq_true rfl, Nat.le_of_ble_eq_true rfl⟩ rfl hl.1 (Nat.le_of_ble_eq_true rfl) d_Q_lookUpElement_33 ⟨(by first | exact Nat.le_of_ble_eq_true rfl | (dsimp only; omega) | omega), (by first | exact Nat.le_of_ble_eq_true rfl | (dsimp only; omega) | omega)⟩) hP hD hS hA [0, 1, 2] [] rfl rfl rfl (by decide) (fun r_5 w1 H locs hp hP hD hS => ?_)
      obtain ⟨rfl, rfl⟩ := hp
      have hP : va_P (gD g) classes [(q0, .inr (2, [.ref b])), (b, .inr (3, [.ref v, .int 0, .int ml, .int (nI xs.length)])), (v, .inl (gB g, cp, .inl a))] H := hP
      have hD : va_D A [(q0, .inr (2, [.ref b])), (b, .inr (3, [.ref v, .int 0, .int ml, .int (nI xs.length)])), (v, .inl (gB g, cp, .inl a))] := hD
      refine lv_if_eq (tgt := 59) hx hb d_Q_lookUpElement_36 (by decide) (fun c_6 => ?_) (fun c_6 => ?_)
      · skip
        refine lv_iinc (v := (x + 1)) (lv' := [(4, .int (x + 1)), (5, .ref (gK g (f_B_name (nI (25 - (d + 1)))))), (0, .ref q0), (1, .int (nI f)), (2, .int (nI q)), (3, .int (nI lv))]) hx hb d_Q_lookUpElement_59 hl (k := 1) rfl (by first | rfl | decide) (by decide) rfl (fun ls hl => ?_)
        refine lv_goto (tgt := 3) hx hb d_Q_lookUpElement_62 (by decide) ?_
        exact ih _ (by omega) (by rw [ex, nI_1]; congr 1; omega) (by rw [zg_Q_elem, if_pos c_4, if_pos c_6] at hp1; exact hp1) _ _ (hP.sub (ws' := [(q0, .inr (2, [.ref b])), (b, .inr (3, [.ref v, .int 0, .int ml, .int (nI xs.length)])), (v, .inl (gB g, cp, .inl a))]) [0, 1, 2] rfl) (hD.sub (ws' := [(q0, .inr (2, [.ref b])), (b, .inr (3, [.ref v, .int 0, .int ml, .int (nI xs.length)])), (v, .inl (gB g, cp, .inl a))]) [0, 1, 2] rfl rfl) hS _ (lv_sub hl [0, 2, 3, 4, 5] rfl)
      · skip
        refine lv_iload hx hb d_Q_lookUpElement_39 (lv_at hl 1 rfl) ?_
        refine tp_i ex ?_
        refine pm_callNE hF hN (c_B_isPrimitive l (nI (25 - (d + 1)))) k_B_isPrimitive j_Q_58 ⟨Nat.le_of_ble_eq_true rfl, Nat.le_of_ble_eq_true rfl⟩ rfl hl.1 (Nat.le_of_ble_eq_true rfl) d_Q_lookUpElement_41 ⟨by first | exact Nat.le_of_ble_eq_true rfl | (dsimp only; omega) | omega | exact Nat.zero_le _, by first | exact Nat.le_of_ble_eq_true rfl | (dsimp only; omega) | omega | exact Nat.zero_le _⟩ ?_
        refine lv_if_eq (tgt := 52) hx hb d_Q_lookUpElement_44 (by decide) (fun c_8 => ?_) (fun c_8 => ?_)
        · skip
          refine lv_iload hx hb d_Q_lookUpElement_52 (lv_at hl 1 rfl) ?_
          refine tp_i ex ?_
          refine lv_iload_n hx hb d_Q_lookUpElement_54 rfl (lv_at hl 5 rfl) ?_
          refine pm_callNE hF hN (c_B_arrayOf l (nI (25 - (d + 1))) (nI lv)) k_B_arrayOf j_Q_62 ⟨Nat.le_of_ble_eq_true rfl, Nat.le_of_ble_eq_true rfl⟩ rfl hl.1 (Nat.le_of_ble_eq_true rfl) d_Q_lookUpElement_55 ⟨by first | exact Nat.le_of_ble_eq_true rfl | (dsimp only; omega) | omega | exact Nat.zero_le _, by first | exact Nat.le_of_ble_eq_true rfl | (dsimp only; omega) | omega | exact Nat.zero_le _⟩ ?_
          rw [zg_Q_elem, if_pos c_4, if_neg c_6, if_pos c_8] at hp1
          exact ret_i hx hb hr hlk (hP.sub (ws' := [(q0, .inr (2, [.ref b])), (b, .inr (3, [.ref v, .int 0, .int ml, .int (nI xs.length)])), (v, .inl (gB g, cp, .inl a))]) [0, 1, 2] rfl) (hD.sub (ws' := [(q0, .inr (2, [.ref b])), (b, .inr (3, [.ref v, .int 0, .int ml, .int (nI xs.length)])), (v, .inl (gB g, cp, .inl a))]) [0, 1, 2] rfl rfl) hS (nar_i _) ⟨hp1, rfl⟩ (by first | exact Nat.le_of_ble_eq_true rfl | (dsimp only; omega) | omega) (by first | exact Nat.le_of_ble_eq_true rfl | (dsimp only; omega) | omega) d_Q_lookUpElement_58
        · skip
          refine lv_bipush (v := (-4)) hx hb d_Q_lookUpElement_47 (by decide) ?_
          refine lv_goto (tgt := 58) hx hb d_Q_lookUpElement_49 (by decide) ?_
          rw [zg_Q_elem, if_pos c_4, if_neg c_6, if_neg c_8] at hp1
          exact ret_i hx hb hr hlk (hP.sub (ws' := [(q0, .inr (2, [.ref b])), (b, .inr (3, [.ref v, .int 0, .int ml, .int (nI xs.length)])), (v, .inl (gB g, cp, .inl a))]) [0, 1, 2] rfl) (hD.sub (ws' := [(q0, .inr (2, [.ref b])), (b, .inr (3, [.ref v, .int 0, .int ml, .int (nI xs.length)])), (v, .inl (gB g, cp, .inl a))]) [0, 1, 2] rfl rfl) hS (nar_i _) ⟨hp1, rfl⟩ (by first | exact Nat.le_of_ble_eq_true rfl | (dsimp only; omega) | omega) (by first | exact Nat.le_of_ble_eq_true rfl | (dsimp only; omega) | omega) d_Q_lookUpElement_58
set_option maxHeartbeats 4000000 in
set_option maxRecDepth 100000 in
theorem c_Q_lookUpElement (g : gT) (l : Launch) (sz : Nat) (q0 b v cp : Nat) (ml : Int32) (a : Nat → Int32) (xs : List Nat) (ht : tx xs cp a) (f q lv : Nat) (hfq : f ≤ q) (hq : q ≤ xs.length) : Mg g l y_Q_lookUpElement b_Q_lookUpElement 6 (some .int) 5 112 0 0 [.ref q0, .int (nI f), .int (nI q), .int (nI lv)] [(q0, .inr (2, [.ref b])), (b, .inr (3, [.ref v, .int 0, .int ml, .int (nI xs.length)])), (v, .inl (gB g, cp, .inl a))] sz (qI g (fun r w1 => r = zg_Q_elem xs f q lv 25 ∧ w1 = [(q0, .inr (2, [.ref b])), (b, .inr (3, [.ref v, .int 0, .int ml, .int (nI xs.length)])), (v, .inl (gB g, cp, .inl a))])) := by
  refine mg_of (by decide) (Nat.le_of_ble_eq_true rfl) ?_
  intro p e s m below meth c ls A hx hb hF hr hlk hnm hA G hP hD hS hl
  have hK := G.2.1
  have hN := G.1
  have hl : lv_has ls 6 [(0, .ref q0), (1, .int (nI f)), (2, .int (nI q)), (3, .int (nI lv))] := hl
  have ht1 := ht.1
  have ht2 := ht.2.1
  have ht3 := ht.2.2.1
  refine lv_iconst (v := 0) hx hb d_Q_lookUpElement_0 (by decide) ?_
  refine lv_istore (lv' := [(4, .int 0), (0, .ref q0), (1, .int (nI f)), (2, .int (nI q)), (3, .int (nI lv))]) hx hb d_Q_lookUpElement_1 hl (by decide) rfl (fun ls hl => ?_)
  exact lp_Q_lookUpElement q0 b v cp ml a xs ht f q lv hfq hq hx hb hF hr hlk hA G (zg_Q_elem xs f q lv 25) 25 0 (Nat.le_refl _) rfl rfl _ _ hP hD hS _ (lv_sub hl [0, 1, 2, 3, 4] rfl)
def fd_Q_lookUp (xs : List Nat) (dn : Nat) : Int32 := (if (nI dn) = 0 then (zg_Q_elem xs 0 xs.length 0 25) else (if (nI (xs.length - dn)) ≤ 2 then (if 2 ≤ (nI (xs.length - dn)) then (-1) else (f_Q_code xs dn)) else (if (nI (xs.getD dn 0)) = 76 then (if (nI (xs.getD (xs.length - 1) 0)) = 59 then (zg_Q_elem xs (dn + 1) (xs.length - 1) dn 25) else (if 2 ≤ (nI (xs.length - dn)) then (-1) else (f_Q_code xs dn))) else (if 2 ≤ (nI (xs.length - dn)) then (-1) else (f_Q_code xs dn)))))
def f_Q_lookUp (xs : List Nat) : Int32 := fd_Q_lookUp xs (zn_Q_countLevels xs xs.length)
set_option maxRecDepth 100000 in
theorem k_Q_lookUp : ck y_Q_lookUp b_Q_lookUp 3 (some .int) 0 (.instanceMethod y_Q_lookUp) := ⟨tk_of (List.mem_of_getElem? (i := 555) rfl) rfl, tk_of (List.mem_of_getElem? (i := 554) (by decide +kernel)) rfl, tk_of (List.mem_of_getElem? (i := 42) (by decide +kernel)) rfl, by decide +kernel⟩
theorem j_Q_30 : Cond.methodLink R_Q 30 y_Q_countLevels ∈ tk := tk_of (List.mem_of_getElem? (i := 556) (by decide +kernel)) rfl
theorem se_Q_Q_countLevels : Cond.selects R_Q y_Q_countLevels y_Q_countLevels ∈ tk := tk_of (List.mem_of_getElem? (i := 15) (by decide +kernel)) rfl
theorem j_Q_41 : Cond.methodLink R_Q 41 y_Q_lookUpCode ∈ tk := tk_of (List.mem_of_getElem? (i := 575) (by decide +kernel)) rfl
theorem se_Q_Q_lookUpCode : Cond.selects R_Q y_Q_lookUpCode y_Q_lookUpCode ∈ tk := tk_of (List.mem_of_getElem? (i := 18) (by decide +kernel)) rfl
theorem j_Q_33 : Cond.methodLink R_Q 33 y_Q_lookUpElement ∈ tk := tk_of (List.mem_of_getElem? (i := 561) (by decide +kernel)) rfl
theorem se_Q_Q_lookUpElement : Cond.selects R_Q y_Q_lookUpElement y_Q_lookUpElement ∈ tk := tk_of (List.mem_of_getElem? (i := 16) (by decide +kernel)) rfl
set_option maxHeartbeats 4000000 in
set_option maxRecDepth 100000 in
theorem c_Q_lookUp (g : gT) (l : Launch) (sz : Nat) (q0 b v cp : Nat) (ml : Int32) (a : Nat → Int32) (xs : List Nat) (ht : tx xs cp a)  : Mg g l y_Q_lookUp b_Q_lookUp 3 (some .int) 6 137 0 0 [.ref q0] [(q0, .inr (2, [.ref b])), (b, .inr (3, [.ref v, .int 0, .int ml, .int (nI xs.length)])), (v, .inl (gB g, cp, .inl a))] sz (qI g (fun r w1 => r = f_Q_lookUp xs ∧ w1 = [(q0, .inr (2, [.ref b])), (b, .inr (3, [.ref v, .int 0, .int ml, .int (nI xs.length)])), (v, .inl (gB g, cp, .inl a))])) := by
  refine mg_of (by decide) (Nat.le_of_ble_eq_true rfl) ?_
  intro p e s m below meth c ls A hx hb hF hr hlk hnm hA G hP hD hS hl
  have hK := G.2.1
  have hN := G.1
  have hl : lv_has ls 3 [(0, .ref q0)] := hl
  have ht1 := ht.1
  have ht2 := ht.2.1
  have ht3 := ht.2.2.1
  refine lv_aload_n hx hb d_Q_lookUp_0 rfl (lv_at hl 0 rfl) ?_
  refine go_i (wr := []) (run_V hF (c_Q_countLevels g l _ q0 b v cp ml a xs ht) k_Q_countLevels j_Q_30 se_Q_Q_countLevels (va_recv hK hP (ci := 2) (q0 := 0) rfl rfl) (cw_down G hP hD hS hA [0, 1, 2] rfl rfl) ⟨Nat.le_of_ble_eq_true rfl, Nat.le_of_ble_eq_true rfl⟩ rfl hl.1 (Nat.le_of_ble_eq_true rfl) d_Q_lookUp_1 ⟨(by first | exact Nat.le_of_ble_eq_true rfl | (dsimp only; omega) | omega), (by first | exact Nat.le_of_ble_eq_true rfl | (dsimp only; omega) | omega)⟩) hP hD hS hA [0, 1, 2] [] rfl rfl rfl (by decide) (fun r_1 w1 H locs hp hP hD hS => ?_)
  obtain ⟨rfl, rfl⟩ := hp
  have hcl := zn_cl_le xs _ (Nat.le_refl _)
  generalize ecl : zn_Q_countLevels xs xs.length = dn at hcl ⊢
  have hP : va_P (gD g) classes [(q0, .inr (2, [.ref b])), (b, .inr (3, [.ref v, .int 0, .int ml, .int (nI xs.length)])), (v, .inl (gB g, cp, .inl a))] H := hP
  have hD : va_D A [(q0, .inr (2, [.ref b])), (b, .inr (3, [.ref v, .int 0, .int ml, .int (nI xs.length)])), (v, .inl (gB g, cp, .inl a))] := hD
  refine lv_istore_n (lv' := [(1, .int (nI dn)), (0, .ref q0)]) hx hb d_Q_lookUp_4 rfl hl (by decide) rfl (fun ls hl => ?_)
  refine lv_aload_n hx hb d_Q_lookUp_5 rfl (lv_at hl 1 rfl) ?_
  refine va_get (D := gD g) (ci := 2) (v := .ref b) (C := R_Q) (T := F_Q) (N := 1) hx hb hF.2.2.2.2 in_Q hF.2.2.2.1 hK hP 0 rfl rfl 0 (by decide) (hF.2.2.2.2 _ fl_Q_12) (fun _ h9 => h9) rfl d_Q_lookUp_6 ?_
  refine go_i (wr := [(q0, .inr (2, [.ref b]))]) (run_V hF (c_SB_length g l _ b v xs.length cp ml a) k_SB_length j_Q_18 se_SB_SB_length (va_recv hK hP (ci := 3) (q0 := 1) rfl rfl) (cw_down G hP hD hS hA [1, 2] rfl rfl) ⟨Nat.le_of_ble_eq_true rfl, Nat.le_of_ble_eq_true rfl⟩ rfl hl.1 (Nat.le_of_ble_eq_true rfl) d_Q_lookUp_9 ⟨(by first | exact Nat.le_of_ble_eq_true rfl | (dsimp only; omega) | omega), (by first | exact Nat.le_of_ble_eq_true rfl | (dsimp only; omega) | omega)⟩) hP hD hS hA [1, 2] [0] rfl rfl rfl (by decide) (fun r_2 w1 H locs hp hP hD hS => ?_)
  obtain ⟨rfl, rfl⟩ := hp
  have hP : va_P (gD g) classes [(q0, .inr (2, [.ref b])), (b, .inr (3, [.ref v, .int 0, .int ml, .int (nI xs.length)])), (v, .inl (gB g, cp, .inl a))] H := hP
  have hD : va_D A [(q0, .inr (2, [.ref b])), (b, .inr (3, [.ref v, .int 0, .int ml, .int (nI xs.length)])), (v, .inl (gB g, cp, .inl a))] := hD
  refine lv_istore_n (lv' := [(2, .int (nI xs.length)), (1, .int (nI dn)), (0, .ref q0)]) hx hb d_Q_lookUp_12 rfl hl (by decide) rfl (fun ls hl => ?_)
  refine lv_iload_n hx hb d_Q_lookUp_13 rfl (lv_at hl 1 rfl) ?_
  refine lv_if_ne (tgt := 25) hx hb d_Q_lookUp_14 (by decide) (fun c_3 => ?_) (fun c_3 => ?_)
  · skip
    refine lv_iload_n hx hb d_Q_lookUp_25 rfl (lv_at hl 0 rfl) ?_
    refine lv_iload_n hx hb d_Q_lookUp_26 rfl (lv_at hl 1 rfl) ?_
    refine lv_isub hx hb d_Q_lookUp_27 ?_
    refine tp_i (show nI xs.length - nI dn = nI (xs.length - dn) from pk_sub hcl) ?_
    refine lv_iconst (v := 2) hx hb d_Q_lookUp_28 (by decide) ?_
    refine lv_icmp_le (tgt := 72) hx hb d_Q_lookUp_29 (by decide) (fun c_4 => ?_) (fun c_4 => ?_)
    · skip
      refine lv_iload_n hx hb d_Q_lookUp_72 rfl (lv_at hl 0 rfl) ?_
      refine lv_iload_n hx hb d_Q_lookUp_73 rfl (lv_at hl 1 rfl) ?_
      refine lv_isub hx hb d_Q_lookUp_74 ?_
      refine tp_i (show nI xs.length - nI dn = nI (xs.length - dn) from pk_sub hcl) ?_
      refine lv_iconst (v := 2) hx hb d_Q_lookUp_75 (by decide) ?_
      refine lv_icmp_ge (tgt := 87) hx hb d_Q_lookUp_76 (by decide) (fun c_5 => ?_) (fun c_5 => ?_)
      · skip
        refine lv_iconst (v := (-1)) hx hb d_Q_lookUp_87 (by decide) ?_
        exact ret_i hx hb hr hlk (hP.sub (ws' := [(q0, .inr (2, [.ref b])), (b, .inr (3, [.ref v, .int 0, .int ml, .int (nI xs.length)])), (v, .inl (gB g, cp, .inl a))]) [0, 1, 2] rfl) (hD.sub (ws' := [(q0, .inr (2, [.ref b])), (b, .inr (3, [.ref v, .int 0, .int ml, .int (nI xs.length)])), (v, .inl (gB g, cp, .inl a))]) [0, 1, 2] rfl rfl) hS (nar_i _) ⟨by rw [f_Q_lookUp, ecl, fd_Q_lookUp, if_neg c_3, if_pos c_4, if_pos c_5], rfl⟩ (by first | exact Nat.le_of_ble_eq_true rfl | (dsimp only; omega) | omega) (by first | exact Nat.le_of_ble_eq_true rfl | (dsimp only; omega) | omega) d_Q_lookUp_88
      · skip
        refine lv_aload_n hx hb d_Q_lookUp_79 rfl (lv_at hl 2 rfl) ?_
        refine lv_iload_n hx hb d_Q_lookUp_80 rfl (lv_at hl 1 rfl) ?_
        refine go_i (wr := []) (run_V hF (c_Q_lookUpCode g l _ q0 b v cp ml a xs ht dn (by omega)) k_Q_lookUpCode j_Q_41 se_Q_Q_lookUpCode (va_recv hK hP (ci := 2) (q0 := 0) rfl rfl) (cw_down G hP hD hS hA [0, 1, 2] rfl rfl) ⟨Nat.le_of_ble_eq_true rfl, Nat.le_of_ble_eq_true rfl⟩ rfl hl.1 (Nat.le_of_ble_eq_true rfl) d_Q_lookUp_81 ⟨(by first | exact Nat.le_of_ble_eq_true rfl | (dsimp only; omega) | omega), (by first | exact Nat.le_of_ble_eq_true rfl | (dsimp only; omega) | omega)⟩) hP hD hS hA [0, 1, 2] [] rfl rfl rfl (by decide) (fun r_6 w1 H locs hp hP hD hS => ?_)
        obtain ⟨rfl, rfl⟩ := hp
        have hP : va_P (gD g) classes [(q0, .inr (2, [.ref b])), (b, .inr (3, [.ref v, .int 0, .int ml, .int (nI xs.length)])), (v, .inl (gB g, cp, .inl a))] H := hP
        have hD : va_D A [(q0, .inr (2, [.ref b])), (b, .inr (3, [.ref v, .int 0, .int ml, .int (nI xs.length)])), (v, .inl (gB g, cp, .inl a))] := hD
        refine lv_goto (tgt := 88) hx hb d_Q_lookUp_84 (by decide) ?_
        exact ret_i hx hb hr hlk (hP.sub (ws' := [(q0, .inr (2, [.ref b])), (b, .inr (3, [.ref v, .int 0, .int ml, .int (nI xs.length)])), (v, .inl (gB g, cp, .inl a))]) [0, 1, 2] rfl) (hD.sub (ws' := [(q0, .inr (2, [.ref b])), (b, .inr (3, [.ref v, .int 0, .int ml, .int (nI xs.length)])), (v, .inl (gB g, cp, .inl a))]) [0, 1, 2] rfl rfl) hS (nar_i _) ⟨by rw [f_Q_lookUp, ecl, fd_Q_lookUp, if_neg c_3, if_pos c_4, if_neg c_5], rfl⟩ (by first | exact Nat.le_of_ble_eq_true rfl | (dsimp only; omega) | omega) (by first | exact Nat.le_of_ble_eq_true rfl | (dsimp only; omega) | omega) d_Q_lookUp_88
    · skip
      have hg2 : 2 < xs.length - dn := by rcases Nat.lt_or_ge 2 (xs.length - dn) with z | z; exact z; exact absurd (nI_le (b := 2) z (by decide)) c_4
      refine lv_aload_n hx hb d_Q_lookUp_32 rfl (lv_at hl 2 rfl) ?_
      refine va_get (D := gD g) (ci := 2) (v := .ref b) (C := R_Q) (T := F_Q) (N := 1) hx hb hF.2.2.2.2 in_Q hF.2.2.2.1 hK hP 0 rfl rfl 0 (by decide) (hF.2.2.2.2 _ fl_Q_12) (fun _ h9 => h9) rfl d_Q_lookUp_33 ?_
      refine lv_iload_n hx hb d_Q_lookUp_36 rfl (lv_at hl 1 rfl) ?_
      refine go_i (wr := [(q0, .inr (2, [.ref b]))]) (run_V hF (c_SB_charAt g l _ b v cp ml a xs ht dn (by omega)) k_SB_charAt j_Q_37 se_SB_SB_charAt (va_recv hK hP (ci := 3) (q0 := 1) rfl rfl) (cw_down G hP hD hS hA [1, 2] rfl rfl) ⟨Nat.le_of_ble_eq_true rfl, Nat.le_of_ble_eq_true rfl⟩ rfl hl.1 (Nat.le_of_ble_eq_true rfl) d_Q_lookUp_37 ⟨(by first | exact Nat.le_of_ble_eq_true rfl | (dsimp only; omega) | omega), (by first | exact Nat.le_of_ble_eq_true rfl | (dsimp only; omega) | omega)⟩) hP hD hS hA [1, 2] [0] rfl rfl rfl (by decide) (fun r_7 w1 H locs hp hP hD hS => ?_)
      obtain ⟨rfl, rfl⟩ := hp
      have hP : va_P (gD g) classes [(q0, .inr (2, [.ref b])), (b, .inr (3, [.ref v, .int 0, .int ml, .int (nI xs.length)])), (v, .inl (gB g, cp, .inl a))] H := hP
      have hD : va_D A [(q0, .inr (2, [.ref b])), (b, .inr (3, [.ref v, .int 0, .int ml, .int (nI xs.length)])), (v, .inl (gB g, cp, .inl a))] := hD
      refine lv_bipush (v := 76) hx hb d_Q_lookUp_40 (by decide) ?_
      refine lv_icmp_ne (tgt := 72) hx hb d_Q_lookUp_42 (by decide) (fun c_8 => ?_) (fun c_8 => ?_)
      · skip
        refine lv_iload_n hx hb d_Q_lookUp_72 rfl (lv_at hl 0 rfl) ?_
        refine lv_iload_n hx hb d_Q_lookUp_73 rfl (lv_at hl 1 rfl) ?_
        refine lv_isub hx hb d_Q_lookUp_74 ?_
        refine tp_i (show nI xs.length - nI dn = nI (xs.length - dn) from pk_sub hcl) ?_
        refine lv_iconst (v := 2) hx hb d_Q_lookUp_75 (by decide) ?_
        refine lv_icmp_ge (tgt := 87) hx hb d_Q_lookUp_76 (by decide) (fun c_9 => ?_) (fun c_9 => ?_)
        · skip
          refine lv_iconst (v := (-1)) hx hb d_Q_lookUp_87 (by decide) ?_
          exact ret_i hx hb hr hlk (hP.sub (ws' := [(q0, .inr (2, [.ref b])), (b, .inr (3, [.ref v, .int 0, .int ml, .int (nI xs.length)])), (v, .inl (gB g, cp, .inl a))]) [0, 1, 2] rfl) (hD.sub (ws' := [(q0, .inr (2, [.ref b])), (b, .inr (3, [.ref v, .int 0, .int ml, .int (nI xs.length)])), (v, .inl (gB g, cp, .inl a))]) [0, 1, 2] rfl rfl) hS (nar_i _) ⟨by rw [f_Q_lookUp, ecl, fd_Q_lookUp, if_neg c_3, if_neg c_4, if_neg c_8, if_pos c_9], rfl⟩ (by first | exact Nat.le_of_ble_eq_true rfl | (dsimp only; omega) | omega) (by first | exact Nat.le_of_ble_eq_true rfl | (dsimp only; omega) | omega) d_Q_lookUp_88
        · skip
          refine lv_aload_n hx hb d_Q_lookUp_79 rfl (lv_at hl 2 rfl) ?_
          refine lv_iload_n hx hb d_Q_lookUp_80 rfl (lv_at hl 1 rfl) ?_
          refine go_i (wr := []) (run_V hF (c_Q_lookUpCode g l _ q0 b v cp ml a xs ht dn (by omega)) k_Q_lookUpCode j_Q_41 se_Q_Q_lookUpCode (va_recv hK hP (ci := 2) (q0 := 0) rfl rfl) (cw_down G hP hD hS hA [0, 1, 2] rfl rfl) ⟨Nat.le_of_ble_eq_true rfl, Nat.le_of_ble_eq_true rfl⟩ rfl hl.1 (Nat.le_of_ble_eq_true rfl) d_Q_lookUp_81 ⟨(by first | exact Nat.le_of_ble_eq_true rfl | (dsimp only; omega) | omega), (by first | exact Nat.le_of_ble_eq_true rfl | (dsimp only; omega) | omega)⟩) hP hD hS hA [0, 1, 2] [] rfl rfl rfl (by decide) (fun r_10 w1 H locs hp hP hD hS => ?_)
          obtain ⟨rfl, rfl⟩ := hp
          have hP : va_P (gD g) classes [(q0, .inr (2, [.ref b])), (b, .inr (3, [.ref v, .int 0, .int ml, .int (nI xs.length)])), (v, .inl (gB g, cp, .inl a))] H := hP
          have hD : va_D A [(q0, .inr (2, [.ref b])), (b, .inr (3, [.ref v, .int 0, .int ml, .int (nI xs.length)])), (v, .inl (gB g, cp, .inl a))] := hD
          refine lv_goto (tgt := 88) hx hb d_Q_lookUp_84 (by decide) ?_
          exact ret_i hx hb hr hlk (hP.sub (ws' := [(q0, .inr (2, [.ref b])), (b, .inr (3, [.ref v, .int 0, .int ml, .int (nI xs.length)])), (v, .inl (gB g, cp, .inl a))]) [0, 1, 2] rfl) (hD.sub (ws' := [(q0, .inr (2, [.ref b])), (b, .inr (3, [.ref v, .int 0, .int ml, .int (nI xs.length)])), (v, .inl (gB g, cp, .inl a))]) [0, 1, 2] rfl rfl) hS (nar_i _) ⟨by rw [f_Q_lookUp, ecl, fd_Q_lookUp, if_neg c_3, if_neg c_4, if_neg c_8, if_neg c_9], rfl⟩ (by first | exact Nat.le_of_ble_eq_true rfl | (dsimp only; omega) | omega) (by first | exact Nat.le_of_ble_eq_true rfl | (dsimp only; omega) | omega) d_Q_lookUp_88
      · skip
        refine lv_aload_n hx hb d_Q_lookUp_45 rfl (lv_at hl 2 rfl) ?_
        refine va_get (D := gD g) (ci := 2) (v := .ref b) (C := R_Q) (T := F_Q) (N := 1) hx hb hF.2.2.2.2 in_Q hF.2.2.2.1 hK hP 0 rfl rfl 0 (by decide) (hF.2.2.2.2 _ fl_Q_12) (fun _ h9 => h9) rfl d_Q_lookUp_46 ?_
        refine lv_iload_n hx hb d_Q_lookUp_49 rfl (lv_at hl 0 rfl) ?_
        refine lv_iconst (v := 1) hx hb d_Q_lookUp_50 (by decide) ?_
        refine lv_isub hx hb d_Q_lookUp_51 ?_
        refine tp_i (show nI xs.length - 1 = nI (xs.length - 1) from pk_sub (b := 1) (by omega)) ?_
        refine go_i (wr := [(q0, .inr (2, [.ref b]))]) (run_V hF (c_SB_charAt g l _ b v cp ml a xs ht (xs.length - 1) (by omega)) k_SB_charAt j_Q_37 se_SB_SB_charAt (va_recv hK hP (ci := 3) (q0 := 1) rfl rfl) (cw_down G hP hD hS hA [1, 2] rfl rfl) ⟨Nat.le_of_ble_eq_true rfl, Nat.le_of_ble_eq_true rfl⟩ rfl hl.1 (Nat.le_of_ble_eq_true rfl) d_Q_lookUp_52 ⟨(by first | exact Nat.le_of_ble_eq_true rfl | (dsimp only; omega) | omega), (by first | exact Nat.le_of_ble_eq_true rfl | (dsimp only; omega) | omega)⟩) hP hD hS hA [1, 2] [0] rfl rfl rfl (by decide) (fun r_11 w1 H locs hp hP hD hS => ?_)
        obtain ⟨rfl, rfl⟩ := hp
        have hP : va_P (gD g) classes [(q0, .inr (2, [.ref b])), (b, .inr (3, [.ref v, .int 0, .int ml, .int (nI xs.length)])), (v, .inl (gB g, cp, .inl a))] H := hP
        have hD : va_D A [(q0, .inr (2, [.ref b])), (b, .inr (3, [.ref v, .int 0, .int ml, .int (nI xs.length)])), (v, .inl (gB g, cp, .inl a))] := hD
        refine lv_bipush (v := 59) hx hb d_Q_lookUp_55 (by decide) ?_
        refine lv_icmp_ne (tgt := 72) hx hb d_Q_lookUp_57 (by decide) (fun c_12 => ?_) (fun c_12 => ?_)
        · skip
          refine lv_iload_n hx hb d_Q_lookUp_72 rfl (lv_at hl 0 rfl) ?_
          refine lv_iload_n hx hb d_Q_lookUp_73 rfl (lv_at hl 1 rfl) ?_
          refine lv_isub hx hb d_Q_lookUp_74 ?_
          refine tp_i (show nI xs.length - nI dn = nI (xs.length - dn) from pk_sub hcl) ?_
          refine lv_iconst (v := 2) hx hb d_Q_lookUp_75 (by decide) ?_
          refine lv_icmp_ge (tgt := 87) hx hb d_Q_lookUp_76 (by decide) (fun c_13 => ?_) (fun c_13 => ?_)
          · skip
            refine lv_iconst (v := (-1)) hx hb d_Q_lookUp_87 (by decide) ?_
            exact ret_i hx hb hr hlk (hP.sub (ws' := [(q0, .inr (2, [.ref b])), (b, .inr (3, [.ref v, .int 0, .int ml, .int (nI xs.length)])), (v, .inl (gB g, cp, .inl a))]) [0, 1, 2] rfl) (hD.sub (ws' := [(q0, .inr (2, [.ref b])), (b, .inr (3, [.ref v, .int 0, .int ml, .int (nI xs.length)])), (v, .inl (gB g, cp, .inl a))]) [0, 1, 2] rfl rfl) hS (nar_i _) ⟨by rw [f_Q_lookUp, ecl, fd_Q_lookUp, if_neg c_3, if_neg c_4, if_pos c_8, if_neg c_12, if_pos c_13], rfl⟩ (by first | exact Nat.le_of_ble_eq_true rfl | (dsimp only; omega) | omega) (by first | exact Nat.le_of_ble_eq_true rfl | (dsimp only; omega) | omega) d_Q_lookUp_88
          · skip
            refine lv_aload_n hx hb d_Q_lookUp_79 rfl (lv_at hl 2 rfl) ?_
            refine lv_iload_n hx hb d_Q_lookUp_80 rfl (lv_at hl 1 rfl) ?_
            refine go_i (wr := []) (run_V hF (c_Q_lookUpCode g l _ q0 b v cp ml a xs ht dn (by omega)) k_Q_lookUpCode j_Q_41 se_Q_Q_lookUpCode (va_recv hK hP (ci := 2) (q0 := 0) rfl rfl) (cw_down G hP hD hS hA [0, 1, 2] rfl rfl) ⟨Nat.le_of_ble_eq_true rfl, Nat.le_of_ble_eq_true rfl⟩ rfl hl.1 (Nat.le_of_ble_eq_true rfl) d_Q_lookUp_81 ⟨(by first | exact Nat.le_of_ble_eq_true rfl | (dsimp only; omega) | omega), (by first | exact Nat.le_of_ble_eq_true rfl | (dsimp only; omega) | omega)⟩) hP hD hS hA [0, 1, 2] [] rfl rfl rfl (by decide) (fun r_14 w1 H locs hp hP hD hS => ?_)
            obtain ⟨rfl, rfl⟩ := hp
            have hP : va_P (gD g) classes [(q0, .inr (2, [.ref b])), (b, .inr (3, [.ref v, .int 0, .int ml, .int (nI xs.length)])), (v, .inl (gB g, cp, .inl a))] H := hP
            have hD : va_D A [(q0, .inr (2, [.ref b])), (b, .inr (3, [.ref v, .int 0, .int ml, .int (nI xs.length)])), (v, .inl (gB g, cp, .inl a))] := hD
            refine lv_goto (tgt := 88) hx hb d_Q_lookUp_84 (by decide) ?_
            exact ret_i hx hb hr hlk (hP.sub (ws' := [(q0, .inr (2, [.ref b])), (b, .inr (3, [.ref v, .int 0, .int ml, .int (nI xs.length)])), (v, .inl (gB g, cp, .inl a))]) [0, 1, 2] rfl) (hD.sub (ws' := [(q0, .inr (2, [.ref b])), (b, .inr (3, [.ref v, .int 0, .int ml, .int (nI xs.length)])), (v, .inl (gB g, cp, .inl a))]) [0, 1, 2] rfl rfl) hS (nar_i _) ⟨by rw [f_Q_lookUp, ecl, fd_Q_lookUp, if_neg c_3, if_neg c_4, if_pos c_8, if_neg c_12, if_neg c_13], rfl⟩ (by first | exact Nat.le_of_ble_eq_true rfl | (dsimp only; omega) | omega) (by first | exact Nat.le_of_ble_eq_true rfl | (dsimp only; omega) | omega) d_Q_lookUp_88
        · skip
          refine lv_aload_n hx hb d_Q_lookUp_60 rfl (lv_at hl 2 rfl) ?_
          refine lv_iload_n hx hb d_Q_lookUp_61 rfl (lv_at hl 1 rfl) ?_
          refine lv_iconst (v := 1) hx hb d_Q_lookUp_62 (by decide) ?_
          refine lv_iadd hx hb d_Q_lookUp_63 ?_
          refine tp_i (nI_1 dn) ?_
          refine lv_iload_n hx hb d_Q_lookUp_64 rfl (lv_at hl 0 rfl) ?_
          refine lv_iconst (v := 1) hx hb d_Q_lookUp_65 (by decide) ?_
          refine lv_isub hx hb d_Q_lookUp_66 ?_
          refine tp_i (show nI xs.length - 1 = nI (xs.length - 1) from pk_sub (b := 1) (by omega)) ?_
          refine lv_iload_n hx hb d_Q_lookUp_67 rfl (lv_at hl 1 rfl) ?_
          refine go_i (wr := []) (run_V hF (c_Q_lookUpElement g l _ q0 b v cp ml a xs ht (dn + 1) (xs.length - 1) dn (by omega) (by omega)) k_Q_lookUpElement j_Q_33 se_Q_Q_lookUpElement (va_recv hK hP (ci := 2) (q0 := 0) rfl rfl) (cw_down G hP hD hS hA [0, 1, 2] rfl rfl) ⟨Nat.le_of_ble_eq_true rfl, Nat.le_of_ble_eq_true rfl⟩ rfl hl.1 (Nat.le_of_ble_eq_true rfl) d_Q_lookUp_68 ⟨(by first | exact Nat.le_of_ble_eq_true rfl | (dsimp only; omega) | omega), (by first | exact Nat.le_of_ble_eq_true rfl | (dsimp only; omega) | omega)⟩) hP hD hS hA [0, 1, 2] [] rfl rfl rfl (by decide) (fun r_15 w1 H locs hp hP hD hS => ?_)
          obtain ⟨rfl, rfl⟩ := hp
          have hP : va_P (gD g) classes [(q0, .inr (2, [.ref b])), (b, .inr (3, [.ref v, .int 0, .int ml, .int (nI xs.length)])), (v, .inl (gB g, cp, .inl a))] H := hP
          have hD : va_D A [(q0, .inr (2, [.ref b])), (b, .inr (3, [.ref v, .int 0, .int ml, .int (nI xs.length)])), (v, .inl (gB g, cp, .inl a))] := hD
          exact ret_i hx hb hr hlk (hP.sub (ws' := [(q0, .inr (2, [.ref b])), (b, .inr (3, [.ref v, .int 0, .int ml, .int (nI xs.length)])), (v, .inl (gB g, cp, .inl a))]) [0, 1, 2] rfl) (hD.sub (ws' := [(q0, .inr (2, [.ref b])), (b, .inr (3, [.ref v, .int 0, .int ml, .int (nI xs.length)])), (v, .inl (gB g, cp, .inl a))]) [0, 1, 2] rfl rfl) hS (nar_i _) ⟨by rw [f_Q_lookUp, ecl, fd_Q_lookUp, if_neg c_3, if_neg c_4, if_pos c_8, if_pos c_12], rfl⟩ (by first | exact Nat.le_of_ble_eq_true rfl | (dsimp only; omega) | omega) (by first | exact Nat.le_of_ble_eq_true rfl | (dsimp only; omega) | omega) d_Q_lookUp_71
  · skip
    refine lv_aload_n hx hb d_Q_lookUp_17 rfl (lv_at hl 2 rfl) ?_
    refine lv_iconst (v := 0) hx hb d_Q_lookUp_18 (by decide) ?_
    refine lv_iload_n hx hb d_Q_lookUp_19 rfl (lv_at hl 0 rfl) ?_
    refine lv_iconst (v := 0) hx hb d_Q_lookUp_20 (by decide) ?_
    refine go_i (wr := []) (run_V hF (c_Q_lookUpElement g l _ q0 b v cp ml a xs ht 0 xs.length 0 (by omega) (by omega)) k_Q_lookUpElement j_Q_33 se_Q_Q_lookUpElement (va_recv hK hP (ci := 2) (q0 := 0) rfl rfl) (cw_down G hP hD hS hA [0, 1, 2] rfl rfl) ⟨Nat.le_of_ble_eq_true rfl, Nat.le_of_ble_eq_true rfl⟩ rfl hl.1 (Nat.le_of_ble_eq_true rfl) d_Q_lookUp_21 ⟨(by first | exact Nat.le_of_ble_eq_true rfl | (dsimp only; omega) | omega), (by first | exact Nat.le_of_ble_eq_true rfl | (dsimp only; omega) | omega)⟩) hP hD hS hA [0, 1, 2] [] rfl rfl rfl (by decide) (fun r_16 w1 H locs hp hP hD hS => ?_)
    obtain ⟨rfl, rfl⟩ := hp
    have hP : va_P (gD g) classes [(q0, .inr (2, [.ref b])), (b, .inr (3, [.ref v, .int 0, .int ml, .int (nI xs.length)])), (v, .inl (gB g, cp, .inl a))] H := hP
    have hD : va_D A [(q0, .inr (2, [.ref b])), (b, .inr (3, [.ref v, .int 0, .int ml, .int (nI xs.length)])), (v, .inl (gB g, cp, .inl a))] := hD
    exact ret_i hx hb hr hlk (hP.sub (ws' := [(q0, .inr (2, [.ref b])), (b, .inr (3, [.ref v, .int 0, .int ml, .int (nI xs.length)])), (v, .inl (gB g, cp, .inl a))]) [0, 1, 2] rfl) (hD.sub (ws' := [(q0, .inr (2, [.ref b])), (b, .inr (3, [.ref v, .int 0, .int ml, .int (nI xs.length)])), (v, .inl (gB g, cp, .inl a))]) [0, 1, 2] rfl rfl) hS (nar_i _) ⟨by rw [f_Q_lookUp, ecl, fd_Q_lookUp, if_pos c_3], rfl⟩ (by first | exact Nat.le_of_ble_eq_true rfl | (dsimp only; omega) | omega) (by first | exact Nat.le_of_ble_eq_true rfl | (dsimp only; omega) | omega) d_Q_lookUp_24
set_option maxRecDepth 100000 in
theorem k_P_find : ck y_P_find b_P_find 2 (some .int) 0 (.instanceMethod y_P_find) := ⟨tk_of (List.mem_of_getElem? (i := 551) rfl) rfl, tk_of (List.mem_of_getElem? (i := 549) (by decide +kernel)) rfl, tk_of (List.mem_of_getElem? (i := 36) (by decide +kernel)) rfl, by decide +kernel⟩
theorem j_P_100 : Cond.methodLinkNest R_P 100 y_Q_lookUp R_P ∈ nw_l := nw_of (List.mem_of_getElem? (i := 552) (by decide +kernel)) rfl
theorem se_Q_Q_lookUp : Cond.selects R_Q y_Q_lookUp y_Q_lookUp ∈ tk := tk_of (List.mem_of_getElem? (i := 14) (by decide +kernel)) rfl
theorem j_P_103 : Cond.methodLinkNest R_P 103 y_Q_clear R_P ∈ nw_l := nw_of (List.mem_of_getElem? (i := 626) (by decide +kernel)) rfl
theorem se_Q_Q_clear : Cond.selects R_Q y_Q_clear y_Q_clear ∈ tk := tk_of (List.mem_of_getElem? (i := 19) (by decide +kernel)) rfl
set_option maxHeartbeats 4000000 in
set_option maxRecDepth 100000 in
theorem c_P_find (g : gT) (l : Launch) (sz : Nat) (p0 ha s0 : Nat) (q0 b v cp : Nat) (ml : Int32) (a : Nat → Int32) (xs : List Nat) (ht : tx xs cp a) : Mg g l y_P_find b_P_find 2 (some .int) 7 166 0 0 [.ref p0] [(p0, .inr (0, [.ref ha, .ref s0, .ref q0])), (q0, .inr (2, [.ref b])), (b, .inr (3, [.ref v, .int 0, .int ml, .int (nI xs.length)])), (v, .inl (gB g, cp, .inl a))] sz (qI g (fun r w1 => ∃ (v' : Nat) (ml' : Int32) (f : Nat → Int32), w1 = [(p0, .inr (0, [.ref ha, .ref s0, .ref q0])), (q0, .inr (2, [.ref b])), (b, .inr (3, [.ref v', .int 0, .int ml', .int (nI ([] : List Nat).length)])), (v', .inl (gB g, cp, .inl f))] ∧ tx [] cp f ∧ r = f_Q_lookUp xs)) := by
  refine mg_of (by decide) (Nat.le_of_ble_eq_true rfl) ?_
  intro p e s m below meth c ls A hx hb hF hr hlk hnm hA G hP hD hS hl
  have hK := G.2.1
  have hN := G.1
  have hl : lv_has ls 2 [(0, .ref p0)] := hl
  refine lv_aload_n hx hb d_P_find_0 rfl (lv_at hl 0 rfl) ?_
  refine va_get (D := gD g) (ci := 0) (v := .ref q0) (C := R_P) (T := F_P) (N := 3) hx hb hF.2.2.2.2 in_P hF.2.2.2.1 hK hP 0 rfl rfl 2 (by decide) (hF.2.2.2.2 _ fl_P_23) (fun _ h9 => h9) rfl d_P_find_1 ?_
  refine go_i (wr := [(p0, .inr (0, [.ref ha, .ref s0, .ref q0]))]) (run_VN hF G.1 (c_Q_lookUp g l _ q0 b v cp ml a xs ht) k_Q_lookUp j_P_100 se_Q_Q_lookUp (va_recv hK hP (ci := 2) (q0 := 1) rfl rfl) (cw_down G hP hD hS hA [1, 2, 3] rfl rfl) ⟨Nat.le_of_ble_eq_true rfl, Nat.le_of_ble_eq_true rfl⟩ rfl hl.1 (Nat.le_of_ble_eq_true rfl) d_P_find_4 ⟨(by first | exact Nat.le_of_ble_eq_true rfl | (dsimp only; omega) | omega), (by first | exact Nat.le_of_ble_eq_true rfl | (dsimp only; omega) | omega)⟩) hP hD hS hA [1, 2, 3] [0] rfl rfl rfl (by decide) (fun r_1 w1 H locs hp hP hD hS => ?_)
  obtain ⟨rfl, rfl⟩ := hp
  have hP : va_P (gD g) classes [(p0, .inr (0, [.ref ha, .ref s0, .ref q0])), (q0, .inr (2, [.ref b])), (b, .inr (3, [.ref v, .int 0, .int ml, .int (nI xs.length)])), (v, .inl (gB g, cp, .inl a))] H := hP
  have hD : va_D A [(p0, .inr (0, [.ref ha, .ref s0, .ref q0])), (q0, .inr (2, [.ref b])), (b, .inr (3, [.ref v, .int 0, .int ml, .int (nI xs.length)])), (v, .inl (gB g, cp, .inl a))] := hD
  refine lv_istore_n (lv' := [(1, .int (f_Q_lookUp xs)), (0, .ref p0)]) hx hb d_P_find_7 rfl hl (by decide) rfl (fun ls hl => ?_)
  refine lv_aload_n hx hb d_P_find_8 rfl (lv_at hl 1 rfl) ?_
  refine va_get (D := gD g) (ci := 0) (v := .ref q0) (C := R_P) (T := F_P) (N := 3) hx hb hF.2.2.2.2 in_P hF.2.2.2.1 hK hP 0 rfl rfl 2 (by decide) (hF.2.2.2.2 _ fl_P_23) (fun _ h9 => h9) rfl d_P_find_9 ?_
  refine go_v (wr := [(p0, .inr (0, [.ref ha, .ref s0, .ref q0]))]) (run_VN hF G.1 (c_Q_clear g l _ q0 b v cp ml a xs ht) k_Q_clear j_P_103 se_Q_Q_clear (va_recv hK hP (ci := 2) (q0 := 1) rfl rfl) (cw_down G hP hD hS hA [1, 2, 3] rfl rfl) ⟨Nat.le_of_ble_eq_true rfl, Nat.le_of_ble_eq_true rfl⟩ rfl hl.1 (Nat.le_of_ble_eq_true rfl) d_P_find_12 ⟨(by first | exact Nat.le_of_ble_eq_true rfl | (dsimp only; omega) | omega), (by first | exact Nat.le_of_ble_eq_true rfl | (dsimp only; omega) | omega)⟩) hP hD hS hA [1, 2, 3] [0] rfl rfl rfl (by decide) (fun w1 H locs hp hP hD hS => ?_)
  obtain ⟨v_3, ml_3, f_3, rfl, ht_3⟩ := hp
  have hP : va_P (gD g) classes [(p0, .inr (0, [.ref ha, .ref s0, .ref q0])), (q0, .inr (2, [.ref b])), (b, .inr (3, [.ref v_3, .int 0, .int ml_3, .int (nI ([] : List Nat).length)])), (v_3, .inl (gB g, cp, .inl f_3))] H := hP
  have hD : va_D A [(p0, .inr (0, [.ref ha, .ref s0, .ref q0])), (q0, .inr (2, [.ref b])), (b, .inr (3, [.ref v_3, .int 0, .int ml_3, .int (nI ([] : List Nat).length)])), (v_3, .inl (gB g, cp, .inl f_3))] := hD
  refine lv_iload_n hx hb d_P_find_15 rfl (lv_at hl 0 rfl) ?_
  exact ret_i hx hb hr hlk (hP.sub (ws' := [(p0, .inr (0, [.ref ha, .ref s0, .ref q0])), (q0, .inr (2, [.ref b])), (b, .inr (3, [.ref v_3, .int 0, .int ml_3, .int (nI ([] : List Nat).length)])), (v_3, .inl (gB g, cp, .inl f_3))]) [0, 1, 2, 3] rfl) (hD.sub (ws' := [(p0, .inr (0, [.ref ha, .ref s0, .ref q0])), (q0, .inr (2, [.ref b])), (b, .inr (3, [.ref v_3, .int 0, .int ml_3, .int (nI ([] : List Nat).length)])), (v_3, .inl (gB g, cp, .inl f_3))]) [0, 1, 2, 3] rfl rfl) hS (nar_i _) ⟨_, _, _, rfl, ht_3, rfl⟩ (by first | exact Nat.le_of_ble_eq_true rfl | (dsimp only; omega) | omega) (by first | exact Nat.le_of_ble_eq_true rfl | (dsimp only; omega) | omega) d_P_find_16
