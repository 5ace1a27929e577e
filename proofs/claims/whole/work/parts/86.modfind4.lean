def zg_M_find (ys : List Int32) : Nat → Int32
  | 0 => f_M_search ys ys.length ys.length
  | d + 1 => if (ys.getD (ys.length - (d + 1)) 0) = 91 then zg_M_find ys d else f_M_search ys (ys.length - (d + 1)) ys.length
set_option maxRecDepth 100000 in
theorem k_M_find : ck y_M_find b_M_find 3 (some .int) 0 (.instanceMethod y_M_find) := ⟨tk_of (List.mem_of_getElem? (i := 864) rfl) rfl, tk_of (List.mem_of_getElem? (i := 862) (by decide +kernel)) rfl, tk_of (List.mem_of_getElem? (i := 43) (by decide +kernel)) rfl, by decide +kernel⟩
theorem j_M_206 : Cond.methodLink R_M 206 y_M_search ∈ tk := tk_of (List.mem_of_getElem? (i := 865) (by decide +kernel)) rfl
theorem se_M_M_search : Cond.selects R_M y_M_search y_M_search ∈ tk := tk_of (List.mem_of_getElem? (i := 31) (by decide +kernel)) rfl
set_option maxHeartbeats 4000000 in
set_option maxRecDepth 100000 in
theorem lp_M_find {p : Program} {l : Launch} {e : Env} {s : State} {m : MethodId} {args : Array Value} {below : List Frame} {meth : Method} {c : Code} {g : gT} {A : Nat → Prop} (h0 a1 a2 a3 a4 : Nat) (n2 n3 : Int32) (xs : List Int32) (md : Nat → Int32) (hm : mt xs md) (ys : List Int32) (td : Nat → Int32) (hy : ty ys td)  (hx : p.tables.exec = Jvm.exec) (hb : c.code = b_M_find) (hF : CallFix p m c b_M_find 3 s args tk R_M) (hr : meth.sig.returnType = some .int) (hlk : meth.locks = false) (hA : ∀ q, s.heap.size ≤ q → A q) (G : Gx g A s s.heap) (E : Int32) :
    ∀ (d : Nat) (x : Int32), d ≤ ys.length → x = nI (ys.length - d) → zg_M_find ys d = E → ∀ (H : Heap) (locs : List Loc), va_P (gD g) classes [(h0, .inr (4, [.ref a1, .int (nI xs.length), .ref a2, .int n2, .ref a3, .ref a4, .int n3])), (a1, .inl (gI g, 200, .inl md)), (a2, .inl (gI g, 40, .inl td))] H → va_D A [(h0, .inr (4, [.ref a1, .int (nI xs.length), .ref a2, .int n2, .ref a3, .ref a4, .int n3])), (a1, .inl (gI g, 200, .inl md)), (a2, .inl (gI g, 40, .inl td))] → va_S A s.heap H locs → ∀ ls : Array Slot, lv_has ls 3 [(2, .int x), (0, .ref h0), (1, .int (nI ys.length))] → W p l e ({ frames := 6, cells := 8, slots := 72, locals := 136 }) s m args below meth c H locs 0 0 (MQ below (qI g (fun r w1 => r = E ∧ ∃ (xs' : List Int32) (md' : Nat → Int32), w1 = [(h0, .inr (4, [.ref a1, .int (nI xs'.length), .ref a2, .int n2, .ref a3, .ref a4, .int n3])), (a1, .inl (gI g, 200, .inl md')), (a2, .inl (gI g, 40, .inl td))] ∧ mt xs' md') A) args s 8 72 A) (F0 m 12 ls []) := by
  have hK := G.2.1
  have hN := G.1
  have hy1 := hy.1
  
  intro d
  induction d with
  | zero =>
    intro x hd ex hp1 H locs hP hD hS ls hl
    have hm1 := hm.1
    have hle : nI ys.length ≤ x := by rw [ex]; exact nI_le (by omega) (by omega)
    refine lv_iload_n hx hb d_M_find_12 rfl (lv_at hl 0 rfl) ?_
    refine lv_iload_n hx hb d_M_find_13 rfl (lv_at hl 2 rfl) ?_
    refine lv_icmp_ge (tgt := 34) hx hb d_M_find_14 (by decide) (fun c_1 => ?_) (fun c_1 => absurd hle c_1)
    refine lv_aload_n hx hb d_M_find_34 rfl (lv_at hl 1 rfl) ?_
    refine lv_iload_n hx hb d_M_find_35 rfl (lv_at hl 0 rfl) ?_
    refine tp_i (show x = nI ys.length from ex) ?_
    refine lv_iload_n hx hb d_M_find_36 rfl (lv_at hl 2 rfl) ?_
    refine go_i (wr := []) (run_V hF (c_M_search g l _ h0 a1 a2 a3 a4 n2 n3 xs md hm ys td hy ys.length ys.length (by omega) (by omega)) k_M_search j_M_206 se_M_M_search (va_recv hK hP (ci := 4) (q0 := 0) rfl rfl) (cw_down G hP hD hS hA [0, 1, 2] rfl rfl) ⟨Nat.le_of_ble_eq_true rfl, Nat.le_of_ble_eq_true rfl⟩ rfl hl.1 (Nat.le_of_ble_eq_true rfl) d_M_find_37 ⟨(by first | exact Nat.le_of_ble_eq_true rfl | (dsimp only; omega) | omega), (by first | exact Nat.le_of_ble_eq_true rfl | (dsimp only; omega) | omega)⟩) hP hD hS hA [0, 1, 2] [] rfl rfl rfl (by decide) (fun r_2 w1 H locs hp hP hD hS => ?_)
    obtain ⟨rfl, xs_3, md_3, rfl, hm_3⟩ := hp
    have hP : va_P (gD g) classes [(h0, .inr (4, [.ref a1, .int (nI xs_3.length), .ref a2, .int n2, .ref a3, .ref a4, .int n3])), (a1, .inl (gI g, 200, .inl md_3)), (a2, .inl (gI g, 40, .inl td))] H := hP
    have hD : va_D A [(h0, .inr (4, [.ref a1, .int (nI xs_3.length), .ref a2, .int n2, .ref a3, .ref a4, .int n3])), (a1, .inl (gI g, 200, .inl md_3)), (a2, .inl (gI g, 40, .inl td))] := hD
    exact ret_i hx hb hr hlk (hP.sub (ws' := [(h0, .inr (4, [.ref a1, .int (nI xs_3.length), .ref a2, .int n2, .ref a3, .ref a4, .int n3])), (a1, .inl (gI g, 200, .inl md_3)), (a2, .inl (gI g, 40, .inl td))]) [0, 1, 2] rfl) (hD.sub (ws' := [(h0, .inr (4, [.ref a1, .int (nI xs_3.length), .ref a2, .int n2, .ref a3, .ref a4, .int n3])), (a1, .inl (gI g, 200, .inl md_3)), (a2, .inl (gI g, 40, .inl td))]) [0, 1, 2] rfl rfl) hS (nar_i _) ⟨hp1, _, _, rfl, hm_3⟩ (by first | exact Nat.le_of_ble_eq_true rfl | (dsimp only; omega) | omega) (by first | exact Nat.le_of_ble_eq_true rfl | (dsimp only; omega) | omega) d_M_find_40
  | succ d ih =>
    intro x hd ex hp1 H locs hP hD hS ls hl
    have hm1 := hm.1
    have hj : (ys.length - (d + 1)) < ys.length := by omega
    have hlt : ¬ nI ys.length ≤ x := by rw [ex]; exact nI_ge hj (by omega)
    refine lv_iload_n hx hb d_M_find_12 rfl (lv_at hl 0 rfl) ?_
    refine lv_iload_n hx hb d_M_find_13 rfl (lv_at hl 2 rfl) ?_
    refine lv_icmp_ge (tgt := 34) hx hb d_M_find_14 (by decide) (fun c_1 => absurd c_1 hlt) (fun c_1 => ?_)
    refine lv_aload_n hx hb d_M_find_17 rfl (lv_at hl 1 rfl) ?_
    refine va_get (D := gD g) (ci := 4) (v := .ref a2) (C := R_M) (T := F_M) (N := 7) hx hb hF.2.2.2.2 in_M hF.2.2.2.1 hK hP 0 rfl rfl 2 (by decide) (hF.2.2.2.2 _ fl_M_13) (fun _ h9 => h9) rfl d_M_find_18 ?_
    refine lv_iload_n hx hb d_M_find_21 rfl (lv_at hl 0 rfl) ?_
    refine tp_i ex ?_
    refine va_iald hx hb hK hP 2 0 rfl rfl (vp_in_nI (n := (ys.length - (d + 1))) (N := 40) (by omega) (by decide)) d_M_find_22 ?_
    refine tp_i (show td (nI (ys.length - (d + 1))).toNatClampNeg = ys.getD (ys.length - (d + 1)) 0 by rw [nI_clamp (by omega)]; exact hy.2 _ (by omega)) ?_
    refine lv_bipush (v := 91) hx hb d_M_find_23 (by decide) ?_
    refine lv_icmp_ne (tgt := 34) hx hb d_M_find_25 (by decide) (fun c_2 => ?_) (fun c_2 => ?_)
    · skip
      refine lv_aload_n hx hb d_M_find_34 rfl (lv_at hl 1 rfl) ?_
      refine lv_iload_n hx hb d_M_find_35 rfl (lv_at hl 0 rfl) ?_
      refine tp_i ex ?_
      refine lv_iload_n hx hb d_M_find_36 rfl (lv_at hl 2 rfl) ?_
      refine go_i (wr := []) (run_V hF (c_M_search g l _ h0 a1 a2 a3 a4 n2 n3 xs md hm ys td hy (ys.length - (d + 1)) ys.length (by omega) (by omega)) k_M_search j_M_206 se_M_M_search (va_recv hK hP (ci := 4) (q0 := 0) rfl rfl) (cw_down G hP hD hS hA [0, 1, 2] rfl rfl) ⟨Nat.le_of_ble_eq_true rfl, Nat.le_of_ble_eq_true rfl⟩ rfl hl.1 (Nat.le_of_ble_eq_true rfl) d_M_find_37 ⟨(by first | exact Nat.le_of_ble_eq_true rfl | (dsimp only; omega) | omega), (by first | exact Nat.le_of_ble_eq_true rfl | (dsimp only; omega) | omega)⟩) hP hD hS hA [0, 1, 2] [] rfl rfl rfl (by decide) (fun r_3 w1 H locs hp hP hD hS => ?_)
      obtain ⟨rfl, xs_4, md_4, rfl, hm_4⟩ := hp
      have hP : va_P (gD g) classes [(h0, .inr (4, [.ref a1, .int (nI xs_4.length), .ref a2, .int n2, .ref a3, .ref a4, .int n3])), (a1, .inl (gI g, 200, .inl md_4)), (a2, .inl (gI g, 40, .inl td))] H := hP
      have hD : va_D A [(h0, .inr (4, [.ref a1, .int (nI xs_4.length), .ref a2, .int n2, .ref a3, .ref a4, .int n3])), (a1, .inl (gI g, 200, .inl md_4)), (a2, .inl (gI g, 40, .inl td))] := hD
      rw [zg_M_find, if_neg c_2] at hp1
      exact ret_i hx hb hr hlk (hP.sub (ws' := [(h0, .inr (4, [.ref a1, .int (nI xs_4.length), .ref a2, .int n2, .ref a3, .ref a4, .int n3])), (a1, .inl (gI g, 200, .inl md_4)), (a2, .inl (gI g, 40, .inl td))]) [0, 1, 2] rfl) (hD.sub (ws' := [(h0, .inr (4, [.ref a1, .int (nI xs_4.length), .ref a2, .int n2, .ref a3, .ref a4, .int n3])), (a1, .inl (gI g, 200, .inl md_4)), (a2, .inl (gI g, 40, .inl td))]) [0, 1, 2] rfl rfl) hS (nar_i _) ⟨hp1, _, _, rfl, hm_4⟩ (by first | exact Nat.le_of_ble_eq_true rfl | (dsimp only; omega) | omega) (by first | exact Nat.le_of_ble_eq_true rfl | (dsimp only; omega) | omega) d_M_find_40
    · skip
      refine lv_iinc (v := (x + 1)) (lv' := [(2, .int (x + 1)), (0, .ref h0), (1, .int (nI ys.length))]) hx hb d_M_find_28 hl (k := 0) rfl (by first | rfl | decide) (by decide) rfl (fun ls hl => ?_)
      refine lv_goto (tgt := 12) hx hb d_M_find_31 (by decide) ?_
      exact ih _ (by omega) (by rw [ex, nI_1]; congr 1; omega) (by rw [zg_M_find, if_pos c_2] at hp1; exact hp1) _ _ (hP.sub (ws' := [(h0, .inr (4, [.ref a1, .int (nI xs.length), .ref a2, .int n2, .ref a3, .ref a4, .int n3])), (a1, .inl (gI g, 200, .inl md)), (a2, .inl (gI g, 40, .inl td))]) [0, 1, 2] rfl) (hD.sub (ws' := [(h0, .inr (4, [.ref a1, .int (nI xs.length), .ref a2, .int n2, .ref a3, .ref a4, .int n3])), (a1, .inl (gI g, 200, .inl md)), (a2, .inl (gI g, 40, .inl td))]) [0, 1, 2] rfl rfl) hS _ (lv_sub hl [0, 1, 2] rfl)
set_option maxHeartbeats 4000000 in
set_option maxRecDepth 100000 in
theorem c_M_find (g : gT) (l : Launch) (sz : Nat) (h0 a1 a2 a3 a4 : Nat) (n3 : Int32) (xs : List Int32) (md : Nat → Int32) (hm : mt xs md) (ys : List Int32) (td : Nat → Int32) (hy : ty ys td) : Mg g l y_M_find b_M_find 3 (some .int) 6 136 8 72 [.ref h0] [(h0, .inr (4, [.ref a1, .int (nI xs.length), .ref a2, .int (nI ys.length), .ref a3, .ref a4, .int n3])), (a1, .inl (gI g, 200, .inl md)), (a2, .inl (gI g, 40, .inl td))] sz (qI g (fun r w1 => r = zg_M_find ys ys.length ∧ ∃ (xs' : List Int32) (md' : Nat → Int32), w1 = [(h0, .inr (4, [.ref a1, .int (nI xs'.length), .ref a2, .int 0, .ref a3, .ref a4, .int n3])), (a1, .inl (gI g, 200, .inl md')), (a2, .inl (gI g, 40, .inl td))] ∧ mt xs' md')) := by
  refine mg_of (by decide) (Nat.le_of_ble_eq_true rfl) ?_
  intro p e s m below meth c ls A hx hb hF hr hlk hnm hA G hP hD hS hl
  have hK := G.2.1
  have hN := G.1
  have hl : lv_has ls 3 [(0, .ref h0)] := hl
  have hm1 := hm.1
  have hy1 := hy.1
  refine lv_aload_n hx hb d_M_find_0 rfl (lv_at hl 0 rfl) ?_
  refine va_get (D := gD g) (ci := 4) (v := .int (nI ys.length)) (C := R_M) (T := F_M) (N := 7) hx hb hF.2.2.2.2 in_M hF.2.2.2.1 hK hP 0 rfl rfl 3 (by decide) (hF.2.2.2.2 _ fl_M_189) (fun _ h9 => h9) rfl d_M_find_1 ?_
  refine lv_istore_n (lv' := [(1, .int (nI ys.length)), (0, .ref h0)]) hx hb d_M_find_4 rfl hl (by decide) rfl (fun ls hl => ?_)
  refine lv_iconst (v := 0) hx hb d_M_find_5 (by decide) ?_
  refine lv_istore_n (lv' := [(2, .int 0), (1, .int (nI ys.length)), (0, .ref h0)]) hx hb d_M_find_6 rfl hl (by decide) rfl (fun ls hl => ?_)
  refine lv_aload_n hx hb d_M_find_7 rfl (lv_at hl 2 rfl) ?_
  refine lv_iconst (v := 0) hx hb d_M_find_8 (by decide) ?_
  refine va_put (D := gD g) (ci := 4) (v := .int 0) (ty := .int) (C := R_M) (T := F_M) (N := 7) hx hb hF.2.2.2.2 in_M t_M t_M_ok n_M hF.2.2.2.1 hK hP hD hS 0 rfl rfl 3 (by decide) (hF.2.2.2.2 _ fl_M_189) (fun _ h9 => h9) rfl (by decide +kernel) rfl rfl (Nat.le_of_ble_eq_true rfl) d_M_find_9 (fun H locs hP hD hS => ?_)
  have hP : va_P (gD g) classes [(h0, .inr (4, [.ref a1, .int (nI xs.length), .ref a2, .int 0, .ref a3, .ref a4, .int n3])), (a1, .inl (gI g, 200, .inl md)), (a2, .inl (gI g, 40, .inl td))] H := hP
  have hD : va_D A [(h0, .inr (4, [.ref a1, .int (nI xs.length), .ref a2, .int 0, .ref a3, .ref a4, .int n3])), (a1, .inl (gI g, 200, .inl md)), (a2, .inl (gI g, 40, .inl td))] := hD
  exact lp_M_find h0 a1 a2 a3 a4 0 n3 xs md hm ys td hy hx hb hF hr hlk hA G (zg_M_find ys ys.length) ys.length 0 (Nat.le_refl _) (by rw [Nat.sub_self]; rfl) rfl _ _ hP hD hS _ (lv_sub hl [0, 2, 1] rfl)
