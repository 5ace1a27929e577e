def zt_M_type (ys : List Int32) (ch : Int32) : List Int32 × Int32 := (if ch < 33 then (ys, ((-1) : Int32)) else (if ch ≤ 126 then (if (nI ys.length) = 40 then (ys, ((-6) : Int32)) else ((z_M_one ys ch), ((nI (z_M_one ys ch).length) : Int32))) else (ys, ((-1) : Int32))))
set_option maxRecDepth 100000 in
theorem k_M_type : ck y_M_type b_M_type 2 (some .int) 1 (.instanceMethod y_M_type) := ⟨tk_of (List.mem_of_getElem? (i := 855) rfl) rfl, tk_of (List.mem_of_getElem? (i := 853) (by decide +kernel)) rfl, tk_of (List.mem_of_getElem? (i := 43) (by decide +kernel)) rfl, by decide +kernel⟩
theorem fl_M_189 : Cond.fieldLink R_M 189 R_M "length" "I" ∈ tk := tk_of (List.mem_of_getElem? (i := 673) (by decide +kernel)) rfl
theorem fl_M_13 : Cond.fieldLink R_M 13 R_M "text" "[I" ∈ tk := tk_of (List.mem_of_getElem? (i := 672) (by decide +kernel)) rfl
set_option maxHeartbeats 4000000 in
set_option maxRecDepth 100000 in
theorem c_M_type (g : gT) (l : Launch) (sz : Nat) (h0 a1 a2 a3 a4 : Nat) (n1 n3 : Int32) (ys : List Int32) (td : Nat → Int32) (hy : ty ys td) (ch : Int32) : Mg g l y_M_type b_M_type 2 (some .int) 0 0 0 0 [.ref h0, .int ch] [(h0, .inr (4, [.ref a1, .int n1, .ref a2, .int (nI ys.length), .ref a3, .ref a4, .int n3])), (a2, .inl (gI g, 40, .inl td))] sz (qI g (fun r w1 => ∃ td' : Nat → Int32, w1 = [(h0, .inr (4, [.ref a1, .int n1, .ref a2, .int (nI (zt_M_type ys ch).1.length), .ref a3, .ref a4, .int n3])), (a2, .inl (gI g, 40, .inl td'))] ∧ ty (zt_M_type ys ch).1 td' ∧ r = (zt_M_type ys ch).2)) := by
  refine mg_of (by decide) (Nat.le_of_ble_eq_true rfl) ?_
  intro p e s m below meth c ls A hx hb hF hr hlk hnm hA G hP hD hS hl
  have hK := G.2.1
  have hN := G.1
  have hl : lv_has ls 2 [(0, .ref h0), (1, .int ch)] := hl
  refine lv_iload_n hx hb d_M_type_0 rfl (lv_at hl 1 rfl) ?_
  refine lv_bipush (v := 33) hx hb d_M_type_1 (by decide) ?_
  refine lv_icmp_lt (tgt := 12) hx hb d_M_type_3 (by decide) (fun c_1 => ?_) (fun c_1 => ?_)
  · skip
    refine lv_iconst (v := (-1)) hx hb d_M_type_12 (by decide) ?_
    have e : zt_M_type ys ch = (ys, ((-1) : Int32)) := by rw [zt_M_type, if_pos c_1]
    exact ret_i hx hb hr hlk (hP.sub (ws' := [(h0, .inr (4, [.ref a1, .int n1, .ref a2, .int (nI ys.length), .ref a3, .ref a4, .int n3])), (a2, .inl (gI g, 40, .inl td))]) [0, 1] rfl) (hD.sub (ws' := [(h0, .inr (4, [.ref a1, .int n1, .ref a2, .int (nI ys.length), .ref a3, .ref a4, .int n3])), (a2, .inl (gI g, 40, .inl td))]) [0, 1] rfl rfl) hS (nar_i _) ⟨td, by rw [e], by rw [e]; exact hy, by rw [e]⟩ (by first | exact Nat.le_of_ble_eq_true rfl | (dsimp only; omega) | omega) (by first | exact Nat.le_of_ble_eq_true rfl | (dsimp only; omega) | omega) d_M_type_13
  · skip
    refine lv_iload_n hx hb d_M_type_6 rfl (lv_at hl 1 rfl) ?_
    refine lv_bipush (v := 126) hx hb d_M_type_7 (by decide) ?_
    refine lv_icmp_le (tgt := 14) hx hb d_M_type_9 (by decide) (fun c_2 => ?_) (fun c_2 => ?_)
    · skip
      refine lv_aload_n hx hb d_M_type_14 rfl (lv_at hl 0 rfl) ?_
      refine va_get (D := gD g) (ci := 4) (v := .int (nI ys.length)) (C := R_M) (T := F_M) (N := 7) hx hb hF.2.2.2.2 in_M hF.2.2.2.1 hK hP 0 rfl rfl 3 (by decide) (hF.2.2.2.2 _ fl_M_189) (fun _ h9 => h9) rfl d_M_type_15 ?_
      refine lv_bipush (v := 40) hx hb d_M_type_18 (by decide) ?_
      refine lv_icmp_ne (tgt := 26) hx hb d_M_type_20 (by decide) (fun c_3 => ?_) (fun c_3 => ?_)
      · skip
        refine lv_aload_n hx hb d_M_type_26 rfl (lv_at hl 0 rfl) ?_
        refine va_get (D := gD g) (ci := 4) (v := .ref a2) (C := R_M) (T := F_M) (N := 7) hx hb hF.2.2.2.2 in_M hF.2.2.2.1 hK hP 0 rfl rfl 2 (by decide) (hF.2.2.2.2 _ fl_M_13) (fun _ h9 => h9) rfl d_M_type_27 ?_
        refine lv_aload_n hx hb d_M_type_30 rfl (lv_at hl 0 rfl) ?_
        refine va_get (D := gD g) (ci := 4) (v := .int (nI ys.length)) (C := R_M) (T := F_M) (N := 7) hx hb hF.2.2.2.2 in_M hF.2.2.2.1 hK hP 0 rfl rfl 3 (by decide) (hF.2.2.2.2 _ fl_M_189) (fun _ h9 => h9) rfl d_M_type_31 ?_
        refine lv_iload_n hx hb d_M_type_34 rfl (lv_at hl 1 rfl) ?_
        refine va_iast hx hb hK hP hD hS 1 0 rfl rfl (vp_in_nI (n := ys.length) (N := 40) (m_lt40 hy.1 c_3) (by decide)) d_M_type_35 (fun H locs hP hD hS => ?_)
        have hP : va_P (gD g) classes [(h0, .inr (4, [.ref a1, .int n1, .ref a2, .int (nI ys.length), .ref a3, .ref a4, .int n3])), (a2, .inl (gI g, 40, .inl (upd td ((nI ys.length) : Int32).toNatClampNeg ch)))] H := hP
        have hD : va_D A [(h0, .inr (4, [.ref a1, .int n1, .ref a2, .int (nI ys.length), .ref a3, .ref a4, .int n3])), (a2, .inl (gI g, 40, .inl (upd td ((nI ys.length) : Int32).toNatClampNeg ch)))] := hD
        refine lv_aload_n hx hb d_M_type_36 rfl (lv_at hl 0 rfl) ?_
        refine lv_dup hx hb d_M_type_37 rfl ?_
        refine va_get (D := gD g) (ci := 4) (v := .int (nI ys.length)) (C := R_M) (T := F_M) (N := 7) hx hb hF.2.2.2.2 in_M hF.2.2.2.1 hK hP 0 rfl rfl 3 (by decide) (hF.2.2.2.2 _ fl_M_189) (fun _ h9 => h9) rfl d_M_type_38 ?_
        refine lv_iconst (v := 1) hx hb d_M_type_41 (by decide) ?_
        refine lv_iadd hx hb d_M_type_42 ?_
        refine tp_i (show ((nI ys.length) + 1) = (nI (z_M_one ys ch).length) from by rw [z_one_len]; exact nI_1 _) ?_
        have hy2 := ty_one (c := ch) hy (m_lt40 hy.1 c_3)
        refine va_put (D := gD g) (ci := 4) (v := .int (nI (z_M_one ys ch).length)) (ty := .int) (C := R_M) (T := F_M) (N := 7) hx hb hF.2.2.2.2 in_M t_M t_M_ok n_M hF.2.2.2.1 hK hP hD hS 0 rfl rfl 3 (by decide) (hF.2.2.2.2 _ fl_M_189) (fun _ h9 => h9) rfl (by decide +kernel) rfl rfl (Nat.le_of_ble_eq_true rfl) d_M_type_43 (fun H locs hP hD hS => ?_)
        have hP : va_P (gD g) classes [(h0, .inr (4, [.ref a1, .int n1, .ref a2, .int (nI (z_M_one ys ch).length), .ref a3, .ref a4, .int n3])), (a2, .inl (gI g, 40, .inl (upd td ((nI ys.length) : Int32).toNatClampNeg ch)))] H := hP
        have hD : va_D A [(h0, .inr (4, [.ref a1, .int n1, .ref a2, .int (nI (z_M_one ys ch).length), .ref a3, .ref a4, .int n3])), (a2, .inl (gI g, 40, .inl (upd td ((nI ys.length) : Int32).toNatClampNeg ch)))] := hD
        refine lv_aload_n hx hb d_M_type_46 rfl (lv_at hl 0 rfl) ?_
        refine va_get (D := gD g) (ci := 4) (v := .int (nI (z_M_one ys ch).length)) (C := R_M) (T := F_M) (N := 7) hx hb hF.2.2.2.2 in_M hF.2.2.2.1 hK hP 0 rfl rfl 3 (by decide) (hF.2.2.2.2 _ fl_M_189) (fun _ h9 => h9) rfl d_M_type_47 ?_
        have e : zt_M_type ys ch = ((z_M_one ys ch), ((nI (z_M_one ys ch).length) : Int32)) := by rw [zt_M_type, if_neg c_1, if_pos c_2, if_neg c_3]
        exact ret_i hx hb hr hlk (hP.sub (ws' := [(h0, .inr (4, [.ref a1, .int n1, .ref a2, .int (nI (z_M_one ys ch).length), .ref a3, .ref a4, .int n3])), (a2, .inl (gI g, 40, .inl (upd td ((nI ys.length) : Int32).toNatClampNeg ch)))]) [0, 1] rfl) (hD.sub (ws' := [(h0, .inr (4, [.ref a1, .int n1, .ref a2, .int (nI (z_M_one ys ch).length), .ref a3, .ref a4, .int n3])), (a2, .inl (gI g, 40, .inl (upd td ((nI ys.length) : Int32).toNatClampNeg ch)))]) [0, 1] rfl rfl) hS (nar_i _) ⟨(upd td ((nI ys.length) : Int32).toNatClampNeg ch), by rw [e], by rw [e]; exact hy2, by rw [e]⟩ (by first | exact Nat.le_of_ble_eq_true rfl | (dsimp only; omega) | omega) (by first | exact Nat.le_of_ble_eq_true rfl | (dsimp only; omega) | omega) d_M_type_50
      · skip
        refine lv_bipush (v := (-6)) hx hb d_M_type_23 (by decide) ?_
        have e : zt_M_type ys ch = (ys, ((-6) : Int32)) := by rw [zt_M_type, if_neg c_1, if_pos c_2, if_pos c_3]
        exact ret_i hx hb hr hlk (hP.sub (ws' := [(h0, .inr (4, [.ref a1, .int n1, .ref a2, .int (nI ys.length), .ref a3, .ref a4, .int n3])), (a2, .inl (gI g, 40, .inl td))]) [0, 1] rfl) (hD.sub (ws' := [(h0, .inr (4, [.ref a1, .int n1, .ref a2, .int (nI ys.length), .ref a3, .ref a4, .int n3])), (a2, .inl (gI g, 40, .inl td))]) [0, 1] rfl rfl) hS (nar_i _) ⟨td, by rw [e], by rw [e]; exact hy, by rw [e]⟩ (by first | exact Nat.le_of_ble_eq_true rfl | (dsimp only; omega) | omega) (by first | exact Nat.le_of_ble_eq_true rfl | (dsimp only; omega) | omega) d_M_type_25
    · skip
      refine lv_iconst (v := (-1)) hx hb d_M_type_12 (by decide) ?_
      have e : zt_M_type ys ch = (ys, ((-1) : Int32)) := by rw [zt_M_type, if_neg c_1, if_neg c_2]
      exact ret_i hx hb hr hlk (hP.sub (ws' := [(h0, .inr (4, [.ref a1, .int n1, .ref a2, .int (nI ys.length), .ref a3, .ref a4, .int n3])), (a2, .inl (gI g, 40, .inl td))]) [0, 1] rfl) (hD.sub (ws' := [(h0, .inr (4, [.ref a1, .int n1, .ref a2, .int (nI ys.length), .ref a3, .ref a4, .int n3])), (a2, .inl (gI g, 40, .inl td))]) [0, 1] rfl rfl) hS (nar_i _) ⟨td, by rw [e], by rw [e]; exact hy, by rw [e]⟩ (by first | exact Nat.le_of_ble_eq_true rfl | (dsimp only; omega) | omega) (by first | exact Nat.le_of_ble_eq_true rfl | (dsimp only; omega) | omega) d_M_type_13
/-- types: the bytes below place n -/
def zg_M_types (w : Int64) : Nat → List Int32 → List Int32 × Int32
  | 0, ys => (ys, nI ys.length)
  | n + 1, ys => if by8 w (nI (8 * n)) = 0 then zg_M_types w n ys else if 0 ≤ (zt_M_type ys (by8 w (nI (8 * n)))).2 then zg_M_types w n (zt_M_type ys (by8 w (nI (8 * n)))).1 else zt_M_type ys (by8 w (nI (8 * n)))
def zt_M_types (ys : List Int32) (w : Int64) : List Int32 × Int32 := zg_M_types w 8 ys
set_option maxRecDepth 100000 in
theorem k_M_types : ck y_M_types b_M_types 6 (some .int) 1 (.instanceMethod y_M_types) := ⟨tk_of (List.mem_of_getElem? (i := 859) rfl) rfl, tk_of (List.mem_of_getElem? (i := 857) (by decide +kernel)) rfl, tk_of (List.mem_of_getElem? (i := 43) (by decide +kernel)) rfl, by decide +kernel⟩
theorem j_M_192 : Cond.methodLink R_M 192 y_M_type ∈ tk := tk_of (List.mem_of_getElem? (i := 860) (by decide +kernel)) rfl
theorem se_M_M_type : Cond.selects R_M y_M_type y_M_type ∈ tk := tk_of (List.mem_of_getElem? (i := 854) (by decide +kernel)) rfl
set_option maxHeartbeats 4000000 in
set_option maxRecDepth 100000 in
theorem lp_M_types {p : Program} {l : Launch} {e : Env} {s : State} {m : MethodId} {args : Array Value} {below : List Frame} {meth : Method} {c : Code} {g : gT} {A : Nat → Prop} (h0 a1 a2 a3 a4 : Nat) (n1 n3 : Int32) (w : Int64) (hx : p.tables.exec = Jvm.exec) (hb : c.code = b_M_types) (hF : CallFix p m c b_M_types 6 s args tk R_M) (hr : meth.sig.returnType = some .int) (hlk : meth.locks = false) (hA : ∀ q, s.heap.size ≤ q → A q) (G : Gx g A s s.heap) (E : List Int32 × Int32) :
    ∀ (n : Nat), n ≤ 8 → ∀ (ys : List Int32) (td : Nat → Int32) (hy : ty ys td) (x : Int32), x + 8 = nI (8 * n) → zg_M_types w n ys = E → ∀ (H : Heap) (locs : List Loc), va_P (gD g) classes [(h0, .inr (4, [.ref a1, .int n1, .ref a2, .int (nI ys.length), .ref a3, .ref a4, .int n3])), (a2, .inl (gI g, 40, .inl td))] H → va_D A [(h0, .inr (4, [.ref a1, .int n1, .ref a2, .int (nI ys.length), .ref a3, .ref a4, .int n3])), (a2, .inl (gI g, 40, .inl td))] → va_S A s.heap H locs → ∀ ls : Array Slot, lv_has ls 6 [(3, .int x), (0, .ref h0), (1, .long w)] → W p l e ({ frames := 1, cells := 0, slots := 0, locals := 21 }) s m args below meth c H locs 0 0 (MQ below (qI g (fun r w1 => ∃ td' : Nat → Int32, w1 = [(h0, .inr (4, [.ref a1, .int n1, .ref a2, .int (nI E.1.length), .ref a3, .ref a4, .int n3])), (a2, .inl (gI g, 40, .inl td'))] ∧ ty E.1 td' ∧ r = E.2) A) args s 0 0 A) (F0 m 3 ls []) := by
  have hK := G.2.1
  have hN := G.1
  intro n
  induction n with
  | zero =>
    intro hn8 ys td hy x ex hp1 H locs hP hD hS ls hl
    have hneg : x < 0 := m_neg8 ex
    have e1 : (ys, nI ys.length) = E := hp1
    refine lv_iload_n hx hb d_M_types_3 rfl (lv_at hl 0 rfl) ?_
    refine lv_if_lt (tgt := 47) hx hb d_M_types_4 (by decide) (fun _ => ?_) (fun q => absurd hneg q)
    refine lv_aload_n hx hb d_M_types_47 rfl (lv_at hl 1 rfl) ?_
    refine va_get (D := gD g) (ci := 4) (v := .int (nI ys.length)) (C := R_M) (T := F_M) (N := 7) hx hb hF.2.2.2.2 in_M hF.2.2.2.1 hK hP 0 rfl rfl 3 (by decide) (hF.2.2.2.2 _ fl_M_189) (fun _ h9 => h9) rfl d_M_types_48 ?_
    exact ret_i hx hb hr hlk hP hD hS (nar_i _) ⟨td, by rw [← e1], by rw [← e1]; exact hy, by rw [← e1]⟩ (Nat.le_refl _) (Nat.le_refl _) d_M_types_51
  | succ n ih =>
    intro hn8 ys td hy x ex hp1 H locs hP hD hS ls hl
    have ih := ih (by omega)
    have ex : x = nI (8 * n) := m_pos8 ex
    have hpos : ¬ x < 0 := by rw [ex]; exact nI_pos (by omega)
    refine lv_iload_n hx hb d_M_types_3 rfl (lv_at hl 0 rfl) ?_
    refine lv_if_lt (tgt := 47) hx hb d_M_types_4 (by decide) (fun c_1 => absurd c_1 hpos) (fun c_1 => ?_)
    refine lv_lload_n hx hb d_M_types_7 rfl (lv_at hl 2 rfl) ?_
    refine lv_iload_n hx hb d_M_types_8 rfl (lv_at hl 0 rfl) ?_
    refine lv_lushr hx hb d_M_types_9 rfl ?_
    refine lv_l2i hx hb d_M_types_10 rfl ?_
    refine lv_sipush (v := 255) hx hb d_M_types_11 (by decide) ?_
    refine lv_iand hx hb d_M_types_14 ?_
    refine tp_i (y := by8 w x) rfl ?_
    refine lv_istore (lv' := [(4, .int (by8 w x)), (3, .int x), (0, .ref h0), (1, .long w)]) hx hb d_M_types_15 hl (by decide) rfl (fun ls hl => ?_)
    refine lv_iload hx hb d_M_types_17 (lv_at hl 0 rfl) ?_
    refine lv_if_ne (tgt := 25) hx hb d_M_types_19 (by decide) (fun c_2 => ?_) (fun c_2 => ?_)
    · skip
      refine lv_aload_n hx hb d_M_types_25 rfl (lv_at hl 2 rfl) ?_
      refine lv_iload hx hb d_M_types_26 (lv_at hl 0 rfl) ?_
      refine go_i (wr := []) (run_V hF (c_M_type g l _ h0 a1 a2 a3 a4 n1 n3 ys td hy (by8 w x)) k_M_type j_M_192 se_M_M_type (va_recv hK hP (ci := 4) (q0 := 0) rfl rfl) (cw_down G hP hD hS hA [0, 1] rfl rfl) ⟨Nat.le_of_ble_eq_true rfl, Nat.le_of_ble_eq_true rfl⟩ rfl hl.1 (Nat.le_of_ble_eq_true rfl) d_M_types_28 ⟨(by first | exact Nat.le_of_ble_eq_true rfl | (dsimp only; omega) | omega), (by first | exact Nat.le_of_ble_eq_true rfl | (dsimp only; omega) | omega)⟩) hP hD hS hA [0, 1] [] rfl rfl rfl (by decide) (fun r_3 w1 H locs hp hP hD hS => ?_)
      obtain ⟨td_4, rfl, hy_4, rfl⟩ := hp
      have hP : va_P (gD g) classes [(h0, .inr (4, [.ref a1, .int n1, .ref a2, .int (nI (zt_M_type ys (by8 w x)).1.length), .ref a3, .ref a4, .int n3])), (a2, .inl (gI g, 40, .inl td_4))] H := hP
      have hD : va_D A [(h0, .inr (4, [.ref a1, .int n1, .ref a2, .int (nI (zt_M_type ys (by8 w x)).1.length), .ref a3, .ref a4, .int n3])), (a2, .inl (gI g, 40, .inl td_4))] := hD
      refine lv_istore (lv' := [(5, .int (zt_M_type ys (by8 w x)).2), (4, .int (by8 w x)), (3, .int x), (0, .ref h0), (1, .long w)]) hx hb d_M_types_31 hl (by decide) rfl (fun ls hl => ?_)
      refine lv_iload hx hb d_M_types_33 (lv_at hl 0 rfl) ?_
      refine lv_if_ge (tgt := 41) hx hb d_M_types_35 (by decide) (fun c_5 => ?_) (fun c_5 => ?_)
      · skip
        refine lv_iinc (v := (x + (-8))) (lv' := [(3, .int (x + (-8))), (5, .int (zt_M_type ys (by8 w x)).2), (4, .int (by8 w x)), (0, .ref h0), (1, .long w)]) hx hb d_M_types_41 hl (k := 2) rfl (by first | rfl | decide) (by decide) rfl (fun ls hl => ?_)
        refine lv_goto (tgt := 3) hx hb d_M_types_44 (by decide) ?_
        exact ih (zt_M_type ys (by8 w x)).1 td_4 hy_4 _ (by rw [ex]; exact m_s8 n) (by rw [zg_M_types, ← ex, if_neg c_2, if_pos c_5] at hp1; exact hp1) _ _ (hP.sub (ws' := [(h0, .inr (4, [.ref a1, .int n1, .ref a2, .int (nI (zt_M_type ys (by8 w x)).1.length), .ref a3, .ref a4, .int n3])), (a2, .inl (gI g, 40, .inl td_4))]) [0, 1] rfl) (hD.sub (ws' := [(h0, .inr (4, [.ref a1, .int n1, .ref a2, .int (nI (zt_M_type ys (by8 w x)).1.length), .ref a3, .ref a4, .int n3])), (a2, .inl (gI g, 40, .inl td_4))]) [0, 1] rfl rfl) hS _ (lv_sub hl [0, 3, 4] rfl)
      · skip
        refine lv_iload hx hb d_M_types_38 (lv_at hl 0 rfl) ?_
        rw [zg_M_types, ← ex, if_neg c_2, if_neg c_5] at hp1
        exact ret_i hx hb hr hlk (hP.sub (ws' := [(h0, .inr (4, [.ref a1, .int n1, .ref a2, .int (nI (zt_M_type ys (by8 w x)).1.length), .ref a3, .ref a4, .int n3])), (a2, .inl (gI g, 40, .inl td_4))]) [0, 1] rfl) (hD.sub (ws' := [(h0, .inr (4, [.ref a1, .int n1, .ref a2, .int (nI (zt_M_type ys (by8 w x)).1.length), .ref a3, .ref a4, .int n3])), (a2, .inl (gI g, 40, .inl td_4))]) [0, 1] rfl rfl) hS (nar_i _) ⟨td_4, by rw [hp1], by rw [← hp1]; exact hy_4, by rw [hp1]⟩ (by first | exact Nat.le_of_ble_eq_true rfl | (dsimp only; omega) | omega) (by first | exact Nat.le_of_ble_eq_true rfl | (dsimp only; omega) | omega) d_M_types_40
    · skip
      refine lv_goto (tgt := 41) hx hb d_M_types_22 (by decide) ?_
      refine lv_iinc (v := (x + (-8))) (lv' := [(3, .int (x + (-8))), (4, .int (by8 w x)), (0, .ref h0), (1, .long w)]) hx hb d_M_types_41 hl (k := 1) rfl (by first | rfl | decide) (by decide) rfl (fun ls hl => ?_)
      refine lv_goto (tgt := 3) hx hb d_M_types_44 (by decide) ?_
      exact ih ys td hy _ (by rw [ex]; exact m_s8 n) (by rw [zg_M_types, ← ex, if_pos c_2] at hp1; exact hp1) _ _ (hP.sub (ws' := [(h0, .inr (4, [.ref a1, .int n1, .ref a2, .int (nI ys.length), .ref a3, .ref a4, .int n3])), (a2, .inl (gI g, 40, .inl td))]) [0, 1] rfl) (hD.sub (ws' := [(h0, .inr (4, [.ref a1, .int n1, .ref a2, .int (nI ys.length), .ref a3, .ref a4, .int n3])), (a2, .inl (gI g, 40, .inl td))]) [0, 1] rfl rfl) hS _ (lv_sub hl [0, 2, 3] rfl)
set_option maxHeartbeats 4000000 in
set_option maxRecDepth 100000 in
theorem c_M_types (g : gT) (l : Launch) (sz : Nat) (h0 a1 a2 a3 a4 : Nat) (n1 n3 : Int32) (ys : List Int32) (td : Nat → Int32) (hy : ty ys td) (w : Int64) : Mg g l y_M_types b_M_types 6 (some .int) 1 21 0 0 [.ref h0, .long w] [(h0, .inr (4, [.ref a1, .int n1, .ref a2, .int (nI ys.length), .ref a3, .ref a4, .int n3])), (a2, .inl (gI g, 40, .inl td))] sz (qI g (fun r w1 => ∃ td' : Nat → Int32, w1 = [(h0, .inr (4, [.ref a1, .int n1, .ref a2, .int (nI (zt_M_types ys w).1.length), .ref a3, .ref a4, .int n3])), (a2, .inl (gI g, 40, .inl td'))] ∧ ty (zt_M_types ys w).1 td' ∧ r = (zt_M_types ys w).2)) := by
  refine mg_of (by decide) (Nat.le_of_ble_eq_true rfl) ?_
  intro p e s m below meth c ls A hx hb hF hr hlk hnm hA G hP hD hS hl
  have hl : lv_has ls 6 [(0, .ref h0), (1, .long w)] := hl
  refine lv_bipush (v := 56) hx hb d_M_types_0 (by decide) ?_
  refine lv_istore_n (lv' := [(3, .int 56), (0, .ref h0), (1, .long w)]) hx hb d_M_types_2 rfl hl (by decide) rfl (fun ls hl => ?_)
  exact lp_M_types h0 a1 a2 a3 a4 n1 n3 w hx hb hF hr hlk hA G (zt_M_types ys w) 8 (by omega) ys td hy 56 (by decide) rfl _ _ hP hD hS ls hl
def f_M_typeOf (hd : Nat → Int32) (i : Int32) : Int32 := (if (f_M_in i 0 7) = 0 then (-1) else (if 0 ≤ (hd (i : Int32).toNatClampNeg) then (hd (i : Int32).toNatClampNeg) else (-2)))
set_option maxRecDepth 100000 in
theorem k_M_typeOf : ck y_M_typeOf b_M_typeOf 2 (some .int) 1 (.instanceMethod y_M_typeOf) := ⟨tk_of (List.mem_of_getElem? (i := 888) rfl) rfl, tk_of (List.mem_of_getElem? (i := 886) (by decide +kernel)) rfl, tk_of (List.mem_of_getElem? (i := 43) (by decide +kernel)) rfl, by decide +kernel⟩
theorem fl_M_16 : Cond.fieldLink R_M 16 R_M "held" "[I" ∈ tk := tk_of (List.mem_of_getElem? (i := 674) (by decide +kernel)) rfl
set_option maxHeartbeats 4000000 in
set_option maxRecDepth 100000 in
theorem c_M_typeOf (g : gT) (l : Launch) (sz : Nat) (h0 a1 a2 a3 a4 : Nat) (n1 n2 n3 : Int32) (hd : Nat → Int32) (i : Int32) : Mg g l y_M_typeOf b_M_typeOf 2 (some .int) 1 22 0 0 [.ref h0, .int i] [(h0, .inr (4, [.ref a1, .int n1, .ref a2, .int n2, .ref a3, .ref a4, .int n3])), (a3, .inl (gI g, 8, .inl hd))] sz (qI g (fun r w1 => r = f_M_typeOf hd i ∧ w1 = [(h0, .inr (4, [.ref a1, .int n1, .ref a2, .int n2, .ref a3, .ref a4, .int n3])), (a3, .inl (gI g, 8, .inl hd))])) := by
  refine mg_of (by decide) (Nat.le_of_ble_eq_true rfl) ?_
  intro p e s m below meth c ls A hx hb hF hr hlk hnm hA G hP hD hS hl
  have hK := G.2.1
  have hN := G.1
  have hl : lv_has ls 2 [(0, .ref h0), (1, .int i)] := hl
  refine lv_iload_n hx hb d_M_typeOf_0 rfl (lv_at hl 1 rfl) ?_
  refine lv_iconst (v := 0) hx hb d_M_typeOf_1 (by decide) ?_
  refine lv_bipush (v := 7) hx hb d_M_typeOf_2 (by decide) ?_
  refine pm_callE hF hN (c_M_in l i 0 7) k_M_in j_M_26 ⟨Nat.le_of_ble_eq_true rfl, Nat.le_of_ble_eq_true rfl⟩ rfl hl.1 (Nat.le_of_ble_eq_true rfl) d_M_typeOf_4 ⟨by first | omega | exact Nat.zero_le _, by first | omega | exact Nat.zero_le _⟩ ?_
  refine lv_if_ne (tgt := 12) hx hb d_M_typeOf_7 (by decide) (fun c_2 => ?_) (fun c_2 => ?_)
  · skip
    refine lv_aload_n hx hb d_M_typeOf_12 rfl (lv_at hl 0 rfl) ?_
    refine va_get (D := gD g) (ci := 4) (v := .ref a3) (C := R_M) (T := F_M) (N := 7) hx hb hF.2.2.2.2 in_M hF.2.2.2.1 hK hP 0 rfl rfl 4 (by decide) (hF.2.2.2.2 _ fl_M_16) (fun _ h9 => h9) rfl d_M_typeOf_13 ?_
    refine lv_iload_n hx hb d_M_typeOf_16 rfl (lv_at hl 1 rfl) ?_
    refine va_iald hx hb hK hP 1 0 rfl rfl (m_slot c_2) d_M_typeOf_17 ?_
    refine lv_if_ge (tgt := 26) hx hb d_M_typeOf_18 (by decide) (fun c_3 => ?_) (fun c_3 => ?_)
    · skip
      refine lv_aload_n hx hb d_M_typeOf_26 rfl (lv_at hl 0 rfl) ?_
      refine va_get (D := gD g) (ci := 4) (v := .ref a3) (C := R_M) (T := F_M) (N := 7) hx hb hF.2.2.2.2 in_M hF.2.2.2.1 hK hP 0 rfl rfl 4 (by decide) (hF.2.2.2.2 _ fl_M_16) (fun _ h9 => h9) rfl d_M_typeOf_27 ?_
      refine lv_iload_n hx hb d_M_typeOf_30 rfl (lv_at hl 1 rfl) ?_
      refine va_iald hx hb hK hP 1 0 rfl rfl (m_slot c_2) d_M_typeOf_31 ?_
      exact ret_i hx hb hr hlk (hP.sub (ws' := [(h0, .inr (4, [.ref a1, .int n1, .ref a2, .int n2, .ref a3, .ref a4, .int n3])), (a3, .inl (gI g, 8, .inl hd))]) [0, 1] rfl) (hD.sub (ws' := [(h0, .inr (4, [.ref a1, .int n1, .ref a2, .int n2, .ref a3, .ref a4, .int n3])), (a3, .inl (gI g, 8, .inl hd))]) [0, 1] rfl rfl) hS (nar_i _) ⟨by rw [f_M_typeOf, if_neg c_2, if_pos c_3], rfl⟩ (by first | exact Nat.le_of_ble_eq_true rfl | (dsimp only; omega) | omega) (by first | exact Nat.le_of_ble_eq_true rfl | (dsimp only; omega) | omega) d_M_typeOf_32
    · skip
      refine lv_bipush (v := (-2)) hx hb d_M_typeOf_21 (by decide) ?_
      refine lv_goto (tgt := 32) hx hb d_M_typeOf_23 (by decide) ?_
      exact ret_i hx hb hr hlk (hP.sub (ws' := [(h0, .inr (4, [.ref a1, .int n1, .ref a2, .int n2, .ref a3, .ref a4, .int n3])), (a3, .inl (gI g, 8, .inl hd))]) [0, 1] rfl) (hD.sub (ws' := [(h0, .inr (4, [.ref a1, .int n1, .ref a2, .int n2, .ref a3, .ref a4, .int n3])), (a3, .inl (gI g, 8, .inl hd))]) [0, 1] rfl rfl) hS (nar_i _) ⟨by rw [f_M_typeOf, if_neg c_2, if_neg c_3], rfl⟩ (by first | exact Nat.le_of_ble_eq_true rfl | (dsimp only; omega) | omega) (by first | exact Nat.le_of_ble_eq_true rfl | (dsimp only; omega) | omega) d_M_typeOf_32
  · skip
    refine lv_iconst (v := (-1)) hx hb d_M_typeOf_10 (by decide) ?_
    exact ret_i hx hb hr hlk (hP.sub (ws' := [(h0, .inr (4, [.ref a1, .int n1, .ref a2, .int n2, .ref a3, .ref a4, .int n3])), (a3, .inl (gI g, 8, .inl hd))]) [0, 1] rfl) (hD.sub (ws' := [(h0, .inr (4, [.ref a1, .int n1, .ref a2, .int n2, .ref a3, .ref a4, .int n3])), (a3, .inl (gI g, 8, .inl hd))]) [0, 1] rfl rfl) hS (nar_i _) ⟨by rw [f_M_typeOf, if_pos c_2], rfl⟩ (by first | exact Nat.le_of_ble_eq_true rfl | (dsimp only; omega) | omega) (by first | exact Nat.le_of_ble_eq_true rfl | (dsimp only; omega) | omega) d_M_typeOf_11
def f_M_isOf (hd : Nat → Int32) (i t : Int32) : Int32 := (if (f_M_in i 0 7) = 0 then 0 else (if (f_M_isType t) = 0 then 0 else (if (hd (i : Int32).toNatClampNeg) < 0 then 0 else (if (f_M_into (hd (i : Int32).toNatClampNeg) t) = 0 then 0 else 1))))
set_option maxRecDepth 100000 in
theorem k_M_isOf : ck y_M_isOf b_M_isOf 3 (some .boolean) 2 (.instanceMethod y_M_isOf) := ⟨tk_of (List.mem_of_getElem? (i := 892) rfl) rfl, tk_of (List.mem_of_getElem? (i := 890) (by decide +kernel)) rfl, tk_of (List.mem_of_getElem? (i := 43) (by decide +kernel)) rfl, by decide +kernel⟩
set_option maxHeartbeats 4000000 in
set_option maxRecDepth 100000 in
theorem c_M_isOf (g : gT) (l : Launch) (sz : Nat) (h0 a1 a2 a3 a4 : Nat) (n1 n2 n3 : Int32) (hd : Nat → Int32) (hh : ∀ j, hd j < 120) (i t : Int32) : Mg g l y_M_isOf b_M_isOf 3 (some .boolean) 3 65 0 0 [.ref h0, .int i, .int t] [(h0, .inr (4, [.ref a1, .int n1, .ref a2, .int n2, .ref a3, .ref a4, .int n3])), (a3, .inl (gI g, 8, .inl hd))] sz (qI g (fun r w1 => r = f_M_isOf hd i t ∧ w1 = [(h0, .inr (4, [.ref a1, .int n1, .ref a2, .int n2, .ref a3, .ref a4, .int n3])), (a3, .inl (gI g, 8, .inl hd))])) := by
  refine mg_of (by decide) (Nat.le_of_ble_eq_true rfl) ?_
  intro p e s m below meth c ls A hx hb hF hr hlk hnm hA G hP hD hS hl
  have hK := G.2.1
  have hN := G.1
  have hl : lv_has ls 3 [(0, .ref h0), (1, .int i), (2, .int t)] := hl
  refine lv_iload_n hx hb d_M_isOf_0 rfl (lv_at hl 1 rfl) ?_
  refine lv_iconst (v := 0) hx hb d_M_isOf_1 (by decide) ?_
  refine lv_bipush (v := 7) hx hb d_M_isOf_2 (by decide) ?_
  refine pm_callE hF hN (c_M_in l i 0 7) k_M_in j_M_26 ⟨Nat.le_of_ble_eq_true rfl, Nat.le_of_ble_eq_true rfl⟩ rfl hl.1 (Nat.le_of_ble_eq_true rfl) d_M_isOf_4 ⟨by first | omega | exact Nat.zero_le _, by first | omega | exact Nat.zero_le _⟩ ?_
  refine lv_if_eq (tgt := 43) hx hb d_M_isOf_7 (by decide) (fun c_2 => ?_) (fun c_2 => ?_)
  · skip
    refine lv_iconst (v := 0) hx hb d_M_isOf_43 (by decide) ?_
    exact ret_i hx hb hr hlk (hP.sub (ws' := [(h0, .inr (4, [.ref a1, .int n1, .ref a2, .int n2, .ref a3, .ref a4, .int n3])), (a3, .inl (gI g, 8, .inl hd))]) [0, 1] rfl) (hD.sub (ws' := [(h0, .inr (4, [.ref a1, .int n1, .ref a2, .int n2, .ref a3, .ref a4, .int n3])), (a3, .inl (gI g, 8, .inl hd))]) [0, 1] rfl rfl) hS (by decide) ⟨by rw [f_M_isOf, if_pos c_2], rfl⟩ (by first | exact Nat.le_of_ble_eq_true rfl | (dsimp only; omega) | omega) (by first | exact Nat.le_of_ble_eq_true rfl | (dsimp only; omega) | omega) d_M_isOf_44
  · skip
    refine lv_iload_n hx hb d_M_isOf_10 rfl (lv_at hl 2 rfl) ?_
    refine pm_callE hF hN (c_M_isType l t) k_M_isType j_M_167 ⟨Nat.le_of_ble_eq_true rfl, Nat.le_of_ble_eq_true rfl⟩ rfl hl.1 (Nat.le_of_ble_eq_true rfl) d_M_isOf_11 ⟨by first | omega | exact Nat.zero_le _, by first | omega | exact Nat.zero_le _⟩ ?_
    refine lv_if_eq (tgt := 43) hx hb d_M_isOf_14 (by decide) (fun c_4 => ?_) (fun c_4 => ?_)
    · skip
      refine lv_iconst (v := 0) hx hb d_M_isOf_43 (by decide) ?_
      exact ret_i hx hb hr hlk (hP.sub (ws' := [(h0, .inr (4, [.ref a1, .int n1, .ref a2, .int n2, .ref a3, .ref a4, .int n3])), (a3, .inl (gI g, 8, .inl hd))]) [0, 1] rfl) (hD.sub (ws' := [(h0, .inr (4, [.ref a1, .int n1, .ref a2, .int n2, .ref a3, .ref a4, .int n3])), (a3, .inl (gI g, 8, .inl hd))]) [0, 1] rfl rfl) hS (by decide) ⟨by rw [f_M_isOf, if_neg c_2, if_pos c_4], rfl⟩ (by first | exact Nat.le_of_ble_eq_true rfl | (dsimp only; omega) | omega) (by first | exact Nat.le_of_ble_eq_true rfl | (dsimp only; omega) | omega) d_M_isOf_44
    · skip
      refine lv_aload_n hx hb d_M_isOf_17 rfl (lv_at hl 0 rfl) ?_
      refine va_get (D := gD g) (ci := 4) (v := .ref a3) (C := R_M) (T := F_M) (N := 7) hx hb hF.2.2.2.2 in_M hF.2.2.2.1 hK hP 0 rfl rfl 4 (by decide) (hF.2.2.2.2 _ fl_M_16) (fun _ h9 => h9) rfl d_M_isOf_18 ?_
      refine lv_iload_n hx hb d_M_isOf_21 rfl (lv_at hl 1 rfl) ?_
      refine va_iald hx hb hK hP 1 0 rfl rfl (m_slot c_2) d_M_isOf_22 ?_
      refine lv_if_lt (tgt := 43) hx hb d_M_isOf_23 (by decide) (fun c_5 => ?_) (fun c_5 => ?_)
      · skip
        refine lv_iconst (v := 0) hx hb d_M_isOf_43 (by decide) ?_
        exact ret_i hx hb hr hlk (hP.sub (ws' := [(h0, .inr (4, [.ref a1, .int n1, .ref a2, .int n2, .ref a3, .ref a4, .int n3])), (a3, .inl (gI g, 8, .inl hd))]) [0, 1] rfl) (hD.sub (ws' := [(h0, .inr (4, [.ref a1, .int n1, .ref a2, .int n2, .ref a3, .ref a4, .int n3])), (a3, .inl (gI g, 8, .inl hd))]) [0, 1] rfl rfl) hS (by decide) ⟨by rw [f_M_isOf, if_neg c_2, if_neg c_4, if_pos c_5], rfl⟩ (by first | exact Nat.le_of_ble_eq_true rfl | (dsimp only; omega) | omega) (by first | exact Nat.le_of_ble_eq_true rfl | (dsimp only; omega) | omega) d_M_isOf_44
      · skip
        refine lv_aload_n hx hb d_M_isOf_26 rfl (lv_at hl 0 rfl) ?_
        refine va_get (D := gD g) (ci := 4) (v := .ref a3) (C := R_M) (T := F_M) (N := 7) hx hb hF.2.2.2.2 in_M hF.2.2.2.1 hK hP 0 rfl rfl 4 (by decide) (hF.2.2.2.2 _ fl_M_16) (fun _ h9 => h9) rfl d_M_isOf_27 ?_
        refine lv_iload_n hx hb d_M_isOf_30 rfl (lv_at hl 1 rfl) ?_
        refine va_iald hx hb hK hP 1 0 rfl rfl (m_slot c_2) d_M_isOf_31 ?_
        refine lv_iload_n hx hb d_M_isOf_32 rfl (lv_at hl 2 rfl) ?_
        refine pm_callE hF hN (c_M_into l (hd (i : Int32).toNatClampNeg) t (hh _)) k_M_into j_M_186 ⟨Nat.le_of_ble_eq_true rfl, Nat.le_of_ble_eq_true rfl⟩ rfl hl.1 (Nat.le_of_ble_eq_true rfl) d_M_isOf_33 ⟨(by first | exact Nat.le_of_ble_eq_true rfl | (dsimp only; omega) | omega), (by first | exact Nat.le_of_ble_eq_true rfl | (dsimp only; omega) | omega)⟩ ?_
        refine lv_if_eq (tgt := 43) hx hb d_M_isOf_36 (by decide) (fun c_6 => ?_) (fun c_6 => ?_)
        · skip
          refine lv_iconst (v := 0) hx hb d_M_isOf_43 (by decide) ?_
          exact ret_i hx hb hr hlk (hP.sub (ws' := [(h0, .inr (4, [.ref a1, .int n1, .ref a2, .int n2, .ref a3, .ref a4, .int n3])), (a3, .inl (gI g, 8, .inl hd))]) [0, 1] rfl) (hD.sub (ws' := [(h0, .inr (4, [.ref a1, .int n1, .ref a2, .int n2, .ref a3, .ref a4, .int n3])), (a3, .inl (gI g, 8, .inl hd))]) [0, 1] rfl rfl) hS (by decide) ⟨by rw [f_M_isOf, if_neg c_2, if_neg c_4, if_neg c_5, if_pos c_6], rfl⟩ (by first | exact Nat.le_of_ble_eq_true rfl | (dsimp only; omega) | omega) (by first | exact Nat.le_of_ble_eq_true rfl | (dsimp only; omega) | omega) d_M_isOf_44
        · skip
          refine lv_iconst (v := 1) hx hb d_M_isOf_39 (by decide) ?_
          refine lv_goto (tgt := 44) hx hb d_M_isOf_40 (by decide) ?_
          exact ret_i hx hb hr hlk (hP.sub (ws' := [(h0, .inr (4, [.ref a1, .int n1, .ref a2, .int n2, .ref a3, .ref a4, .int n3])), (a3, .inl (gI g, 8, .inl hd))]) [0, 1] rfl) (hD.sub (ws' := [(h0, .inr (4, [.ref a1, .int n1, .ref a2, .int n2, .ref a3, .ref a4, .int n3])), (a3, .inl (gI g, 8, .inl hd))]) [0, 1] rfl rfl) hS (by decide) ⟨by rw [f_M_isOf, if_neg c_2, if_neg c_4, if_neg c_5, if_neg c_6], rfl⟩ (by first | exact Nat.le_of_ble_eq_true rfl | (dsimp only; omega) | omega) (by first | exact Nat.le_of_ble_eq_true rfl | (dsimp only; omega) | omega) d_M_isOf_44
def f_M_cast (hd : Nat → Int32) (i t : Int32) : Int32 := (if (f_M_in i 0 7) = 0 then (-1) else (if (f_M_isType t) = 0 then (-1) else (if (hd (i : Int32).toNatClampNeg) < 0 then 0 else (if (f_M_into (hd (i : Int32).toNatClampNeg) t) = 0 then (-5) else 0))))
set_option maxRecDepth 100000 in
theorem k_M_cast : ck y_M_cast b_M_cast 3 (some .int) 2 (.instanceMethod y_M_cast) := ⟨tk_of (List.mem_of_getElem? (i := 896) rfl) rfl, tk_of (List.mem_of_getElem? (i := 894) (by decide +kernel)) rfl, tk_of (List.mem_of_getElem? (i := 43) (by decide +kernel)) rfl, by decide +kernel⟩
set_option maxHeartbeats 4000000 in
set_option maxRecDepth 100000 in
theorem c_M_cast (g : gT) (l : Launch) (sz : Nat) (h0 a1 a2 a3 a4 : Nat) (n1 n2 n3 : Int32) (hd : Nat → Int32) (hh : ∀ j, hd j < 120) (i t : Int32) : Mg g l y_M_cast b_M_cast 3 (some .int) 3 65 0 0 [.ref h0, .int i, .int t] [(h0, .inr (4, [.ref a1, .int n1, .ref a2, .int n2, .ref a3, .ref a4, .int n3])), (a3, .inl (gI g, 8, .inl hd))] sz (qI g (fun r w1 => r = f_M_cast hd i t ∧ w1 = [(h0, .inr (4, [.ref a1, .int n1, .ref a2, .int n2, .ref a3, .ref a4, .int n3])), (a3, .inl (gI g, 8, .inl hd))])) := by
  refine mg_of (by decide) (Nat.le_of_ble_eq_true rfl) ?_
  intro p e s m below meth c ls A hx hb hF hr hlk hnm hA G hP hD hS hl
  have hK := G.2.1
  have hN := G.1
  have hl : lv_has ls 3 [(0, .ref h0), (1, .int i), (2, .int t)] := hl
  refine lv_iload_n hx hb d_M_cast_0 rfl (lv_at hl 1 rfl) ?_
  refine lv_iconst (v := 0) hx hb d_M_cast_1 (by decide) ?_
  refine lv_bipush (v := 7) hx hb d_M_cast_2 (by decide) ?_
  refine pm_callE hF hN (c_M_in l i 0 7) k_M_in j_M_26 ⟨Nat.le_of_ble_eq_true rfl, Nat.le_of_ble_eq_true rfl⟩ rfl hl.1 (Nat.le_of_ble_eq_true rfl) d_M_cast_4 ⟨by first | omega | exact Nat.zero_le _, by first | omega | exact Nat.zero_le _⟩ ?_
  refine lv_if_eq (tgt := 17) hx hb d_M_cast_7 (by decide) (fun c_2 => ?_) (fun c_2 => ?_)
  · skip
    refine lv_iconst (v := (-1)) hx hb d_M_cast_17 (by decide) ?_
    exact ret_i hx hb hr hlk (hP.sub (ws' := [(h0, .inr (4, [.ref a1, .int n1, .ref a2, .int n2, .ref a3, .ref a4, .int n3])), (a3, .inl (gI g, 8, .inl hd))]) [0, 1] rfl) (hD.sub (ws' := [(h0, .inr (4, [.ref a1, .int n1, .ref a2, .int n2, .ref a3, .ref a4, .int n3])), (a3, .inl (gI g, 8, .inl hd))]) [0, 1] rfl rfl) hS (nar_i _) ⟨by rw [f_M_cast, if_pos c_2], rfl⟩ (by first | exact Nat.le_of_ble_eq_true rfl | (dsimp only; omega) | omega) (by first | exact Nat.le_of_ble_eq_true rfl | (dsimp only; omega) | omega) d_M_cast_18
  · skip
    refine lv_iload_n hx hb d_M_cast_10 rfl (lv_at hl 2 rfl) ?_
    refine pm_callE hF hN (c_M_isType l t) k_M_isType j_M_167 ⟨Nat.le_of_ble_eq_true rfl, Nat.le_of_ble_eq_true rfl⟩ rfl hl.1 (Nat.le_of_ble_eq_true rfl) d_M_cast_11 ⟨by first | omega | exact Nat.zero_le _, by first | omega | exact Nat.zero_le _⟩ ?_
    refine lv_if_ne (tgt := 19) hx hb d_M_cast_14 (by decide) (fun c_4 => ?_) (fun c_4 => ?_)
    · skip
      refine lv_aload_n hx hb d_M_cast_19 rfl (lv_at hl 0 rfl) ?_
      refine va_get (D := gD g) (ci := 4) (v := .ref a3) (C := R_M) (T := F_M) (N := 7) hx hb hF.2.2.2.2 in_M hF.2.2.2.1 hK hP 0 rfl rfl 4 (by decide) (hF.2.2.2.2 _ fl_M_16) (fun _ h9 => h9) rfl d_M_cast_20 ?_
      refine lv_iload_n hx hb d_M_cast_23 rfl (lv_at hl 1 rfl) ?_
      refine va_iald hx hb hK hP 1 0 rfl rfl (m_slot c_2) d_M_cast_24 ?_
      refine lv_if_lt (tgt := 41) hx hb d_M_cast_25 (by decide) (fun c_5 => ?_) (fun c_5 => ?_)
      · skip
        refine lv_iconst (v := 0) hx hb d_M_cast_41 (by decide) ?_
        refine lv_goto (tgt := 47) hx hb d_M_cast_42 (by decide) ?_
        exact ret_i hx hb hr hlk (hP.sub (ws' := [(h0, .inr (4, [.ref a1, .int n1, .ref a2, .int n2, .ref a3, .ref a4, .int n3])), (a3, .inl (gI g, 8, .inl hd))]) [0, 1] rfl) (hD.sub (ws' := [(h0, .inr (4, [.ref a1, .int n1, .ref a2, .int n2, .ref a3, .ref a4, .int n3])), (a3, .inl (gI g, 8, .inl hd))]) [0, 1] rfl rfl) hS (nar_i _) ⟨by rw [f_M_cast, if_neg c_2, if_neg c_4, if_pos c_5], rfl⟩ (by first | exact Nat.le_of_ble_eq_true rfl | (dsimp only; omega) | omega) (by first | exact Nat.le_of_ble_eq_true rfl | (dsimp only; omega) | omega) d_M_cast_47
      · skip
        refine lv_aload_n hx hb d_M_cast_28 rfl (lv_at hl 0 rfl) ?_
        refine va_get (D := gD g) (ci := 4) (v := .ref a3) (C := R_M) (T := F_M) (N := 7) hx hb hF.2.2.2.2 in_M hF.2.2.2.1 hK hP 0 rfl rfl 4 (by decide) (hF.2.2.2.2 _ fl_M_16) (fun _ h9 => h9) rfl d_M_cast_29 ?_
        refine lv_iload_n hx hb d_M_cast_32 rfl (lv_at hl 1 rfl) ?_
        refine va_iald hx hb hK hP 1 0 rfl rfl (m_slot c_2) d_M_cast_33 ?_
        refine lv_iload_n hx hb d_M_cast_34 rfl (lv_at hl 2 rfl) ?_
        refine pm_callE hF hN (c_M_into l (hd (i : Int32).toNatClampNeg) t (hh _)) k_M_into j_M_186 ⟨Nat.le_of_ble_eq_true rfl, Nat.le_of_ble_eq_true rfl⟩ rfl hl.1 (Nat.le_of_ble_eq_true rfl) d_M_cast_35 ⟨(by first | exact Nat.le_of_ble_eq_true rfl | (dsimp only; omega) | omega), (by first | exact Nat.le_of_ble_eq_true rfl | (dsimp only; omega) | omega)⟩ ?_
        refine lv_if_eq (tgt := 45) hx hb d_M_cast_38 (by decide) (fun c_6 => ?_) (fun c_6 => ?_)
        · skip
          refine lv_bipush (v := (-5)) hx hb d_M_cast_45 (by decide) ?_
          exact ret_i hx hb hr hlk (hP.sub (ws' := [(h0, .inr (4, [.ref a1, .int n1, .ref a2, .int n2, .ref a3, .ref a4, .int n3])), (a3, .inl (gI g, 8, .inl hd))]) [0, 1] rfl) (hD.sub (ws' := [(h0, .inr (4, [.ref a1, .int n1, .ref a2, .int n2, .ref a3, .ref a4, .int n3])), (a3, .inl (gI g, 8, .inl hd))]) [0, 1] rfl rfl) hS (nar_i _) ⟨by rw [f_M_cast, if_neg c_2, if_neg c_4, if_neg c_5, if_pos c_6], rfl⟩ (by first | exact Nat.le_of_ble_eq_true rfl | (dsimp only; omega) | omega) (by first | exact Nat.le_of_ble_eq_true rfl | (dsimp only; omega) | omega) d_M_cast_47
        · skip
          refine lv_iconst (v := 0) hx hb d_M_cast_41 (by decide) ?_
          refine lv_goto (tgt := 47) hx hb d_M_cast_42 (by decide) ?_
          exact ret_i hx hb hr hlk (hP.sub (ws' := [(h0, .inr (4, [.ref a1, .int n1, .ref a2, .int n2, .ref a3, .ref a4, .int n3])), (a3, .inl (gI g, 8, .inl hd))]) [0, 1] rfl) (hD.sub (ws' := [(h0, .inr (4, [.ref a1, .int n1, .ref a2, .int n2, .ref a3, .ref a4, .int n3])), (a3, .inl (gI g, 8, .inl hd))]) [0, 1] rfl rfl) hS (nar_i _) ⟨by rw [f_M_cast, if_neg c_2, if_neg c_4, if_neg c_5, if_neg c_6], rfl⟩ (by first | exact Nat.le_of_ble_eq_true rfl | (dsimp only; omega) | omega) (by first | exact Nat.le_of_ble_eq_true rfl | (dsimp only; omega) | omega) d_M_cast_47
    · skip
      refine lv_iconst (v := (-1)) hx hb d_M_cast_17 (by decide) ?_
      exact ret_i hx hb hr hlk (hP.sub (ws' := [(h0, .inr (4, [.ref a1, .int n1, .ref a2, .int n2, .ref a3, .ref a4, .int n3])), (a3, .inl (gI g, 8, .inl hd))]) [0, 1] rfl) (hD.sub (ws' := [(h0, .inr (4, [.ref a1, .int n1, .ref a2, .int n2, .ref a3, .ref a4, .int n3])), (a3, .inl (gI g, 8, .inl hd))]) [0, 1] rfl rfl) hS (nar_i _) ⟨by rw [f_M_cast, if_neg c_2, if_pos c_4], rfl⟩ (by first | exact Nat.le_of_ble_eq_true rfl | (dsimp only; omega) | omega) (by first | exact Nat.le_of_ble_eq_true rfl | (dsimp only; omega) | omega) d_M_cast_18
def f_M_light (hd : Nat → Int32) (i : Int32) : Int32 := (if (f_M_in i 0 7) = 0 then (-1) else (if 0 ≤ (hd (i : Int32).toNatClampNeg) then (if (hd (i : Int32).toNatClampNeg) = 16 then 1 else (if (hd (i : Int32).toNatClampNeg) = 17 then 12 else (if (hd (i : Int32).toNatClampNeg) = 14 then 114 else (-3)))) else (-2)))
set_option maxRecDepth 100000 in
theorem k_M_light : ck y_M_light b_M_light 3 (some .int) 1 (.instanceMethod y_M_light) := ⟨tk_of (List.mem_of_getElem? (i := 900) rfl) rfl, tk_of (List.mem_of_getElem? (i := 898) (by decide +kernel)) rfl, tk_of (List.mem_of_getElem? (i := 43) (by decide +kernel)) rfl, by decide +kernel⟩
set_option maxHeartbeats 4000000 in
set_option maxRecDepth 100000 in
theorem c_M_light (g : gT) (l : Launch) (sz : Nat) (h0 a1 a2 a3 a4 : Nat) (n1 n2 n3 : Int32) (hd : Nat → Int32) (i : Int32) : Mg g l y_M_light b_M_light 3 (some .int) 1 22 0 0 [.ref h0, .int i] [(h0, .inr (4, [.ref a1, .int n1, .ref a2, .int n2, .ref a3, .ref a4, .int n3])), (a3, .inl (gI g, 8, .inl hd))] sz (qI g (fun r w1 => r = f_M_light hd i ∧ w1 = [(h0, .inr (4, [.ref a1, .int n1, .ref a2, .int n2, .ref a3, .ref a4, .int n3])), (a3, .inl (gI g, 8, .inl hd))])) := by
  refine mg_of (by decide) (Nat.le_of_ble_eq_true rfl) ?_
  intro p e s m below meth c ls A hx hb hF hr hlk hnm hA G hP hD hS hl
  have hK := G.2.1
  have hN := G.1
  have hl : lv_has ls 3 [(0, .ref h0), (1, .int i)] := hl
  refine lv_iload_n hx hb d_M_light_0 rfl (lv_at hl 1 rfl) ?_
  refine lv_iconst (v := 0) hx hb d_M_light_1 (by decide) ?_
  refine lv_bipush (v := 7) hx hb d_M_light_2 (by decide) ?_
  refine pm_callE hF hN (c_M_in l i 0 7) k_M_in j_M_26 ⟨Nat.le_of_ble_eq_true rfl, Nat.le_of_ble_eq_true rfl⟩ rfl hl.1 (Nat.le_of_ble_eq_true rfl) d_M_light_4 ⟨by first | omega | exact Nat.zero_le _, by first | omega | exact Nat.zero_le _⟩ ?_
  refine lv_if_ne (tgt := 12) hx hb d_M_light_7 (by decide) (fun c_2 => ?_) (fun c_2 => ?_)
  · skip
    refine lv_aload_n hx hb d_M_light_12 rfl (lv_at hl 0 rfl) ?_
    refine va_get (D := gD g) (ci := 4) (v := .ref a3) (C := R_M) (T := F_M) (N := 7) hx hb hF.2.2.2.2 in_M hF.2.2.2.1 hK hP 0 rfl rfl 4 (by decide) (hF.2.2.2.2 _ fl_M_16) (fun _ h9 => h9) rfl d_M_light_13 ?_
    refine lv_iload_n hx hb d_M_light_16 rfl (lv_at hl 1 rfl) ?_
    refine va_iald hx hb hK hP 1 0 rfl rfl (m_slot c_2) d_M_light_17 ?_
    refine lv_istore_n (lv' := [(2, .int (hd (i : Int32).toNatClampNeg)), (0, .ref h0), (1, .int i)]) hx hb d_M_light_18 rfl hl (by decide) rfl (fun ls hl => ?_)
    refine lv_iload_n hx hb d_M_light_19 rfl (lv_at hl 0 rfl) ?_
    refine lv_if_ge (tgt := 28) hx hb d_M_light_20 (by decide) (fun c_3 => ?_) (fun c_3 => ?_)
    · skip
      refine lv_iload_n hx hb d_M_light_28 rfl (lv_at hl 0 rfl) ?_
      refine lv_bipush (v := 16) hx hb d_M_light_29 (by decide) ?_
      refine lv_icmp_ne (tgt := 38) hx hb d_M_light_31 (by decide) (fun c_4 => ?_) (fun c_4 => ?_)
      · skip
        refine lv_iload_n hx hb d_M_light_38 rfl (lv_at hl 0 rfl) ?_
        refine lv_bipush (v := 17) hx hb d_M_light_39 (by decide) ?_
        refine lv_icmp_ne (tgt := 49) hx hb d_M_light_41 (by decide) (fun c_5 => ?_) (fun c_5 => ?_)
        · skip
          refine lv_iload_n hx hb d_M_light_49 rfl (lv_at hl 0 rfl) ?_
          refine lv_bipush (v := 14) hx hb d_M_light_50 (by decide) ?_
          refine lv_icmp_ne (tgt := 60) hx hb d_M_light_52 (by decide) (fun c_6 => ?_) (fun c_6 => ?_)
          · skip
            refine lv_bipush (v := (-3)) hx hb d_M_light_60 (by decide) ?_
            exact ret_i hx hb hr hlk (hP.sub (ws' := [(h0, .inr (4, [.ref a1, .int n1, .ref a2, .int n2, .ref a3, .ref a4, .int n3])), (a3, .inl (gI g, 8, .inl hd))]) [0, 1] rfl) (hD.sub (ws' := [(h0, .inr (4, [.ref a1, .int n1, .ref a2, .int n2, .ref a3, .ref a4, .int n3])), (a3, .inl (gI g, 8, .inl hd))]) [0, 1] rfl rfl) hS (nar_i _) ⟨by rw [f_M_light, if_neg c_2, if_pos c_3, if_neg c_4, if_neg c_5, if_neg c_6], rfl⟩ (by first | exact Nat.le_of_ble_eq_true rfl | (dsimp only; omega) | omega) (by first | exact Nat.le_of_ble_eq_true rfl | (dsimp only; omega) | omega) d_M_light_62
          · skip
            refine lv_bipush (v := 114) hx hb d_M_light_55 (by decide) ?_
            refine lv_goto (tgt := 62) hx hb d_M_light_57 (by decide) ?_
            exact ret_i hx hb hr hlk (hP.sub (ws' := [(h0, .inr (4, [.ref a1, .int n1, .ref a2, .int n2, .ref a3, .ref a4, .int n3])), (a3, .inl (gI g, 8, .inl hd))]) [0, 1] rfl) (hD.sub (ws' := [(h0, .inr (4, [.ref a1, .int n1, .ref a2, .int n2, .ref a3, .ref a4, .int n3])), (a3, .inl (gI g, 8, .inl hd))]) [0, 1] rfl rfl) hS (nar_i _) ⟨by rw [f_M_light, if_neg c_2, if_pos c_3, if_neg c_4, if_neg c_5, if_pos c_6], rfl⟩ (by first | exact Nat.le_of_ble_eq_true rfl | (dsimp only; omega) | omega) (by first | exact Nat.le_of_ble_eq_true rfl | (dsimp only; omega) | omega) d_M_light_62
        · skip
          refine lv_bipush (v := 12) hx hb d_M_light_44 (by decide) ?_
          refine lv_goto (tgt := 62) hx hb d_M_light_46 (by decide) ?_
          exact ret_i hx hb hr hlk (hP.sub (ws' := [(h0, .inr (4, [.ref a1, .int n1, .ref a2, .int n2, .ref a3, .ref a4, .int n3])), (a3, .inl (gI g, 8, .inl hd))]) [0, 1] rfl) (hD.sub (ws' := [(h0, .inr (4, [.ref a1, .int n1, .ref a2, .int n2, .ref a3, .ref a4, .int n3])), (a3, .inl (gI g, 8, .inl hd))]) [0, 1] rfl rfl) hS (nar_i _) ⟨by rw [f_M_light, if_neg c_2, if_pos c_3, if_neg c_4, if_pos c_5], rfl⟩ (by first | exact Nat.le_of_ble_eq_true rfl | (dsimp only; omega) | omega) (by first | exact Nat.le_of_ble_eq_true rfl | (dsimp only; omega) | omega) d_M_light_62
      · skip
        refine lv_iconst (v := 1) hx hb d_M_light_34 (by decide) ?_
        refine lv_goto (tgt := 62) hx hb d_M_light_35 (by decide) ?_
        exact ret_i hx hb hr hlk (hP.sub (ws' := [(h0, .inr (4, [.ref a1, .int n1, .ref a2, .int n2, .ref a3, .ref a4, .int n3])), (a3, .inl (gI g, 8, .inl hd))]) [0, 1] rfl) (hD.sub (ws' := [(h0, .inr (4, [.ref a1, .int n1, .ref a2, .int n2, .ref a3, .ref a4, .int n3])), (a3, .inl (gI g, 8, .inl hd))]) [0, 1] rfl rfl) hS (nar_i _) ⟨by rw [f_M_light, if_neg c_2, if_pos c_3, if_pos c_4], rfl⟩ (by first | exact Nat.le_of_ble_eq_true rfl | (dsimp only; omega) | omega) (by first | exact Nat.le_of_ble_eq_true rfl | (dsimp only; omega) | omega) d_M_light_62
    · skip
      refine lv_bipush (v := (-2)) hx hb d_M_light_23 (by decide) ?_
      refine lv_goto (tgt := 62) hx hb d_M_light_25 (by decide) ?_
      exact ret_i hx hb hr hlk (hP.sub (ws' := [(h0, .inr (4, [.ref a1, .int n1, .ref a2, .int n2, .ref a3, .ref a4, .int n3])), (a3, .inl (gI g, 8, .inl hd))]) [0, 1] rfl) (hD.sub (ws' := [(h0, .inr (4, [.ref a1, .int n1, .ref a2, .int n2, .ref a3, .ref a4, .int n3])), (a3, .inl (gI g, 8, .inl hd))]) [0, 1] rfl rfl) hS (nar_i _) ⟨by rw [f_M_light, if_neg c_2, if_neg c_3], rfl⟩ (by first | exact Nat.le_of_ble_eq_true rfl | (dsimp only; omega) | omega) (by first | exact Nat.le_of_ble_eq_true rfl | (dsimp only; omega) | omega) d_M_light_62
  · skip
    refine lv_iconst (v := (-1)) hx hb d_M_light_10 (by decide) ?_
    exact ret_i hx hb hr hlk (hP.sub (ws' := [(h0, .inr (4, [.ref a1, .int n1, .ref a2, .int n2, .ref a3, .ref a4, .int n3])), (a3, .inl (gI g, 8, .inl hd))]) [0, 1] rfl) (hD.sub (ws' := [(h0, .inr (4, [.ref a1, .int n1, .ref a2, .int n2, .ref a3, .ref a4, .int n3])), (a3, .inl (gI g, 8, .inl hd))]) [0, 1] rfl rfl) hS (nar_i _) ⟨by rw [f_M_light, if_pos c_2], rfl⟩ (by first | exact Nat.le_of_ble_eq_true rfl | (dsimp only; omega) | omega) (by first | exact Nat.le_of_ble_eq_true rfl | (dsimp only; omega) | omega) d_M_light_11
def f_M_alike (hd gd : Nat → Int32) (i j : Int32) : Int32 := (if (f_M_in i 0 7) = 0 then 0 else (if (f_M_in j 0 7) = 0 then 0 else (if (hd (i : Int32).toNatClampNeg) = (hd (j : Int32).toNatClampNeg) then (if (hd (i : Int32).toNatClampNeg) < 0 then 1 else (if (hd (i : Int32).toNatClampNeg) = 14 then 1 else (if (gd (i : Int32).toNatClampNeg) = (gd (j : Int32).toNatClampNeg) then 1 else 0))) else 0)))
set_option maxRecDepth 100000 in
theorem k_M_alike : ck y_M_alike b_M_alike 3 (some .boolean) 2 (.instanceMethod y_M_alike) := ⟨tk_of (List.mem_of_getElem? (i := 904) rfl) rfl, tk_of (List.mem_of_getElem? (i := 902) (by decide +kernel)) rfl, tk_of (List.mem_of_getElem? (i := 43) (by decide +kernel)) rfl, by decide +kernel⟩
theorem fl_M_19 : Cond.fieldLink R_M 19 R_M "thing" "[I" ∈ tk := tk_of (List.mem_of_getElem? (i := 675) (by decide +kernel)) rfl
set_option maxHeartbeats 4000000 in
set_option maxRecDepth 100000 in
theorem c_M_alike (g : gT) (l : Launch) (sz : Nat) (h0 a1 a2 a3 a4 : Nat) (n1 n2 n3 : Int32) (hd : Nat → Int32) (gd : Nat → Int32) (i j : Int32) : Mg g l y_M_alike b_M_alike 3 (some .boolean) 1 22 0 0 [.ref h0, .int i, .int j] [(h0, .inr (4, [.ref a1, .int n1, .ref a2, .int n2, .ref a3, .ref a4, .int n3])), (a3, .inl (gI g, 8, .inl hd)), (a4, .inl (gI g, 8, .inl gd))] sz (qI g (fun r w1 => r = f_M_alike hd gd i j ∧ w1 = [(h0, .inr (4, [.ref a1, .int n1, .ref a2, .int n2, .ref a3, .ref a4, .int n3])), (a3, .inl (gI g, 8, .inl hd)), (a4, .inl (gI g, 8, .inl gd))])) := by
  refine mg_of (by decide) (Nat.le_of_ble_eq_true rfl) ?_
  intro p e s m below meth c ls A hx hb hF hr hlk hnm hA G hP hD hS hl
  have hK := G.2.1
  have hN := G.1
  have hl : lv_has ls 3 [(0, .ref h0), (1, .int i), (2, .int j)] := hl
  refine lv_iload_n hx hb d_M_alike_0 rfl (lv_at hl 1 rfl) ?_
  refine lv_iconst (v := 0) hx hb d_M_alike_1 (by decide) ?_
  refine lv_bipush (v := 7) hx hb d_M_alike_2 (by decide) ?_
  refine pm_callE hF hN (c_M_in l i 0 7) k_M_in j_M_26 ⟨Nat.le_of_ble_eq_true rfl, Nat.le_of_ble_eq_true rfl⟩ rfl hl.1 (Nat.le_of_ble_eq_true rfl) d_M_alike_4 ⟨by first | omega | exact Nat.zero_le _, by first | omega | exact Nat.zero_le _⟩ ?_
  refine lv_if_eq (tgt := 35) hx hb d_M_alike_7 (by decide) (fun c_2 => ?_) (fun c_2 => ?_)
  · skip
    refine lv_iconst (v := 0) hx hb d_M_alike_35 (by decide) ?_
    exact ret_i hx hb hr hlk (hP.sub (ws' := [(h0, .inr (4, [.ref a1, .int n1, .ref a2, .int n2, .ref a3, .ref a4, .int n3])), (a3, .inl (gI g, 8, .inl hd)), (a4, .inl (gI g, 8, .inl gd))]) [0, 1, 2] rfl) (hD.sub (ws' := [(h0, .inr (4, [.ref a1, .int n1, .ref a2, .int n2, .ref a3, .ref a4, .int n3])), (a3, .inl (gI g, 8, .inl hd)), (a4, .inl (gI g, 8, .inl gd))]) [0, 1, 2] rfl rfl) hS (by decide) ⟨by rw [f_M_alike, if_pos c_2], rfl⟩ (by first | exact Nat.le_of_ble_eq_true rfl | (dsimp only; omega) | omega) (by first | exact Nat.le_of_ble_eq_true rfl | (dsimp only; omega) | omega) d_M_alike_36
  · skip
    refine lv_iload_n hx hb d_M_alike_10 rfl (lv_at hl 2 rfl) ?_
    refine lv_iconst (v := 0) hx hb d_M_alike_11 (by decide) ?_
    refine lv_bipush (v := 7) hx hb d_M_alike_12 (by decide) ?_
    refine pm_callE hF hN (c_M_in l j 0 7) k_M_in j_M_26 ⟨Nat.le_of_ble_eq_true rfl, Nat.le_of_ble_eq_true rfl⟩ rfl hl.1 (Nat.le_of_ble_eq_true rfl) d_M_alike_14 ⟨by first | omega | exact Nat.zero_le _, by first | omega | exact Nat.zero_le _⟩ ?_
    refine lv_if_eq (tgt := 35) hx hb d_M_alike_17 (by decide) (fun c_4 => ?_) (fun c_4 => ?_)
    · skip
      refine lv_iconst (v := 0) hx hb d_M_alike_35 (by decide) ?_
      exact ret_i hx hb hr hlk (hP.sub (ws' := [(h0, .inr (4, [.ref a1, .int n1, .ref a2, .int n2, .ref a3, .ref a4, .int n3])), (a3, .inl (gI g, 8, .inl hd)), (a4, .inl (gI g, 8, .inl gd))]) [0, 1, 2] rfl) (hD.sub (ws' := [(h0, .inr (4, [.ref a1, .int n1, .ref a2, .int n2, .ref a3, .ref a4, .int n3])), (a3, .inl (gI g, 8, .inl hd)), (a4, .inl (gI g, 8, .inl gd))]) [0, 1, 2] rfl rfl) hS (by decide) ⟨by rw [f_M_alike, if_neg c_2, if_pos c_4], rfl⟩ (by first | exact Nat.le_of_ble_eq_true rfl | (dsimp only; omega) | omega) (by first | exact Nat.le_of_ble_eq_true rfl | (dsimp only; omega) | omega) d_M_alike_36
    · skip
      refine lv_aload_n hx hb d_M_alike_20 rfl (lv_at hl 0 rfl) ?_
      refine va_get (D := gD g) (ci := 4) (v := .ref a3) (C := R_M) (T := F_M) (N := 7) hx hb hF.2.2.2.2 in_M hF.2.2.2.1 hK hP 0 rfl rfl 4 (by decide) (hF.2.2.2.2 _ fl_M_16) (fun _ h9 => h9) rfl d_M_alike_21 ?_
      refine lv_iload_n hx hb d_M_alike_24 rfl (lv_at hl 1 rfl) ?_
      refine va_iald hx hb hK hP 1 0 rfl rfl (m_slot c_2) d_M_alike_25 ?_
      refine lv_aload_n hx hb d_M_alike_26 rfl (lv_at hl 0 rfl) ?_
      refine va_get (D := gD g) (ci := 4) (v := .ref a3) (C := R_M) (T := F_M) (N := 7) hx hb hF.2.2.2.2 in_M hF.2.2.2.1 hK hP 0 rfl rfl 4 (by decide) (hF.2.2.2.2 _ fl_M_16) (fun _ h9 => h9) rfl d_M_alike_27 ?_
      refine lv_iload_n hx hb d_M_alike_30 rfl (lv_at hl 2 rfl) ?_
      refine va_iald hx hb hK hP 1 0 rfl rfl (m_slot c_4) d_M_alike_31 ?_
      refine lv_icmp_eq (tgt := 37) hx hb d_M_alike_32 (by decide) (fun c_5 => ?_) (fun c_5 => ?_)
      · skip
        refine lv_aload_n hx hb d_M_alike_37 rfl (lv_at hl 0 rfl) ?_
        refine va_get (D := gD g) (ci := 4) (v := .ref a3) (C := R_M) (T := F_M) (N := 7) hx hb hF.2.2.2.2 in_M hF.2.2.2.1 hK hP 0 rfl rfl 4 (by decide) (hF.2.2.2.2 _ fl_M_16) (fun _ h9 => h9) rfl d_M_alike_38 ?_
        refine lv_iload_n hx hb d_M_alike_41 rfl (lv_at hl 1 rfl) ?_
        refine va_iald hx hb hK hP 1 0 rfl rfl (m_slot c_2) d_M_alike_42 ?_
        refine lv_if_lt (tgt := 72) hx hb d_M_alike_43 (by decide) (fun c_6 => ?_) (fun c_6 => ?_)
        · skip
          refine lv_iconst (v := 1) hx hb d_M_alike_72 (by decide) ?_
          refine lv_goto (tgt := 77) hx hb d_M_alike_73 (by decide) ?_
          exact ret_i hx hb hr hlk (hP.sub (ws' := [(h0, .inr (4, [.ref a1, .int n1, .ref a2, .int n2, .ref a3, .ref a4, .int n3])), (a3, .inl (gI g, 8, .inl hd)), (a4, .inl (gI g, 8, .inl gd))]) [0, 1, 2] rfl) (hD.sub (ws' := [(h0, .inr (4, [.ref a1, .int n1, .ref a2, .int n2, .ref a3, .ref a4, .int n3])), (a3, .inl (gI g, 8, .inl hd)), (a4, .inl (gI g, 8, .inl gd))]) [0, 1, 2] rfl rfl) hS (by decide) ⟨by rw [f_M_alike, if_neg c_2, if_neg c_4, if_pos c_5, if_pos c_6], rfl⟩ (by first | exact Nat.le_of_ble_eq_true rfl | (dsimp only; omega) | omega) (by first | exact Nat.le_of_ble_eq_true rfl | (dsimp only; omega) | omega) d_M_alike_77
        · skip
          refine lv_aload_n hx hb d_M_alike_46 rfl (lv_at hl 0 rfl) ?_
          refine va_get (D := gD g) (ci := 4) (v := .ref a3) (C := R_M) (T := F_M) (N := 7) hx hb hF.2.2.2.2 in_M hF.2.2.2.1 hK hP 0 rfl rfl 4 (by decide) (hF.2.2.2.2 _ fl_M_16) (fun _ h9 => h9) rfl d_M_alike_47 ?_
          refine lv_iload_n hx hb d_M_alike_50 rfl (lv_at hl 1 rfl) ?_
          refine va_iald hx hb hK hP 1 0 rfl rfl (m_slot c_2) d_M_alike_51 ?_
          refine lv_bipush (v := 14) hx hb d_M_alike_52 (by decide) ?_
          refine lv_icmp_eq (tgt := 72) hx hb d_M_alike_54 (by decide) (fun c_7 => ?_) (fun c_7 => ?_)
          · skip
            refine lv_iconst (v := 1) hx hb d_M_alike_72 (by decide) ?_
            refine lv_goto (tgt := 77) hx hb d_M_alike_73 (by decide) ?_
            exact ret_i hx hb hr hlk (hP.sub (ws' := [(h0, .inr (4, [.ref a1, .int n1, .ref a2, .int n2, .ref a3, .ref a4, .int n3])), (a3, .inl (gI g, 8, .inl hd)), (a4, .inl (gI g, 8, .inl gd))]) [0, 1, 2] rfl) (hD.sub (ws' := [(h0, .inr (4, [.ref a1, .int n1, .ref a2, .int n2, .ref a3, .ref a4, .int n3])), (a3, .inl (gI g, 8, .inl hd)), (a4, .inl (gI g, 8, .inl gd))]) [0, 1, 2] rfl rfl) hS (by decide) ⟨by rw [f_M_alike, if_neg c_2, if_neg c_4, if_pos c_5, if_neg c_6, if_pos c_7], rfl⟩ (by first | exact Nat.le_of_ble_eq_true rfl | (dsimp only; omega) | omega) (by first | exact Nat.le_of_ble_eq_true rfl | (dsimp only; omega) | omega) d_M_alike_77
          · skip
            refine lv_aload_n hx hb d_M_alike_57 rfl (lv_at hl 0 rfl) ?_
            refine va_get (D := gD g) (ci := 4) (v := .ref a4) (C := R_M) (T := F_M) (N := 7) hx hb hF.2.2.2.2 in_M hF.2.2.2.1 hK hP 0 rfl rfl 5 (by decide) (hF.2.2.2.2 _ fl_M_19) (fun _ h9 => h9) rfl d_M_alike_58 ?_
            refine lv_iload_n hx hb d_M_alike_61 rfl (lv_at hl 1 rfl) ?_
            refine va_iald hx hb hK hP 2 0 rfl rfl (m_slot c_2) d_M_alike_62 ?_
            refine lv_aload_n hx hb d_M_alike_63 rfl (lv_at hl 0 rfl) ?_
            refine va_get (D := gD g) (ci := 4) (v := .ref a4) (C := R_M) (T := F_M) (N := 7) hx hb hF.2.2.2.2 in_M hF.2.2.2.1 hK hP 0 rfl rfl 5 (by decide) (hF.2.2.2.2 _ fl_M_19) (fun _ h9 => h9) rfl d_M_alike_64 ?_
            refine lv_iload_n hx hb d_M_alike_67 rfl (lv_at hl 2 rfl) ?_
            refine va_iald hx hb hK hP 2 0 rfl rfl (m_slot c_4) d_M_alike_68 ?_
            refine lv_icmp_ne (tgt := 76) hx hb d_M_alike_69 (by decide) (fun c_8 => ?_) (fun c_8 => ?_)
            · skip
              refine lv_iconst (v := 0) hx hb d_M_alike_76 (by decide) ?_
              exact ret_i hx hb hr hlk (hP.sub (ws' := [(h0, .inr (4, [.ref a1, .int n1, .ref a2, .int n2, .ref a3, .ref a4, .int n3])), (a3, .inl (gI g, 8, .inl hd)), (a4, .inl (gI g, 8, .inl gd))]) [0, 1, 2] rfl) (hD.sub (ws' := [(h0, .inr (4, [.ref a1, .int n1, .ref a2, .int n2, .ref a3, .ref a4, .int n3])), (a3, .inl (gI g, 8, .inl hd)), (a4, .inl (gI g, 8, .inl gd))]) [0, 1, 2] rfl rfl) hS (by decide) ⟨by rw [f_M_alike, if_neg c_2, if_neg c_4, if_pos c_5, if_neg c_6, if_neg c_7, if_neg c_8], rfl⟩ (by first | exact Nat.le_of_ble_eq_true rfl | (dsimp only; omega) | omega) (by first | exact Nat.le_of_ble_eq_true rfl | (dsimp only; omega) | omega) d_M_alike_77
            · skip
              refine lv_iconst (v := 1) hx hb d_M_alike_72 (by decide) ?_
              refine lv_goto (tgt := 77) hx hb d_M_alike_73 (by decide) ?_
              exact ret_i hx hb hr hlk (hP.sub (ws' := [(h0, .inr (4, [.ref a1, .int n1, .ref a2, .int n2, .ref a3, .ref a4, .int n3])), (a3, .inl (gI g, 8, .inl hd)), (a4, .inl (gI g, 8, .inl gd))]) [0, 1, 2] rfl) (hD.sub (ws' := [(h0, .inr (4, [.ref a1, .int n1, .ref a2, .int n2, .ref a3, .ref a4, .int n3])), (a3, .inl (gI g, 8, .inl hd)), (a4, .inl (gI g, 8, .inl gd))]) [0, 1, 2] rfl rfl) hS (by decide) ⟨by rw [f_M_alike, if_neg c_2, if_neg c_4, if_pos c_5, if_neg c_6, if_neg c_7, if_pos c_8], rfl⟩ (by first | exact Nat.le_of_ble_eq_true rfl | (dsimp only; omega) | omega) (by first | exact Nat.le_of_ble_eq_true rfl | (dsimp only; omega) | omega) d_M_alike_77
      · skip
        refine lv_iconst (v := 0) hx hb d_M_alike_35 (by decide) ?_
        exact ret_i hx hb hr hlk (hP.sub (ws' := [(h0, .inr (4, [.ref a1, .int n1, .ref a2, .int n2, .ref a3, .ref a4, .int n3])), (a3, .inl (gI g, 8, .inl hd)), (a4, .inl (gI g, 8, .inl gd))]) [0, 1, 2] rfl) (hD.sub (ws' := [(h0, .inr (4, [.ref a1, .int n1, .ref a2, .int n2, .ref a3, .ref a4, .int n3])), (a3, .inl (gI g, 8, .inl hd)), (a4, .inl (gI g, 8, .inl gd))]) [0, 1, 2] rfl rfl) hS (by decide) ⟨by rw [f_M_alike, if_neg c_2, if_neg c_4, if_neg c_5], rfl⟩ (by first | exact Nat.le_of_ble_eq_true rfl | (dsimp only; omega) | omega) (by first | exact Nat.le_of_ble_eq_true rfl | (dsimp only; omega) | omega) d_M_alike_36
def f_M_alone (t : Int32) : Int32 := (if t = 11 then 1 else (if t = 16 then 1 else (if t = 17 then 1 else (if t = 23 then 1 else (if t = 24 then 1 else 0)))))
def f_M_some (t : Int32) : Int32 := (if t = (-1) then 1 else (if (f_M_alone t) = 0 then (if 40 ≤ t then 1 else (if t = 9 then 1 else (if t = 14 then 1 else (if t = 15 then 1 else (if t = 18 then 1 else (if t = 19 then 1 else (if t = 22 then 1 else 0))))))) else 1))
def zp_M_put (n3 : Int32) (hd gd : Nat → Int32) (i t : Int32) : Int32 × Int32 × (Nat → Int32) × (Nat → Int32) := (if (f_M_in i 0 7) = 0 then (((-1) : Int32), n3, hd, gd) else (if t = (-1) then (if (f_M_some t) = 0 then (((-2) : Int32), n3, hd, gd) else (if (f_M_alone t) = 0 then ((0 : Int32), (n3 + 1), (upd hd (i : Int32).toNatClampNeg t), (upd gd (i : Int32).toNatClampNeg (n3 + 1))) else ((0 : Int32), (n3 + 1), (upd hd (i : Int32).toNatClampNeg t), (upd gd (i : Int32).toNatClampNeg t)))) else (if (f_M_isType t) = 0 then (((-1) : Int32), n3, hd, gd) else (if (f_M_some t) = 0 then (((-2) : Int32), n3, hd, gd) else (if (f_M_alone t) = 0 then ((0 : Int32), (n3 + 1), (upd hd (i : Int32).toNatClampNeg t), (upd gd (i : Int32).toNatClampNeg (n3 + 1))) else ((0 : Int32), (n3 + 1), (upd hd (i : Int32).toNatClampNeg t), (upd gd (i : Int32).toNatClampNeg t)))))))
set_option maxRecDepth 100000 in
theorem k_M_put : ck y_M_put b_M_put 5 (some .int) 2 (.instanceMethod y_M_put) := ⟨tk_of (List.mem_of_getElem? (i := 884) rfl) rfl, tk_of (List.mem_of_getElem? (i := 882) (by decide +kernel)) rfl, tk_of (List.mem_of_getElem? (i := 43) (by decide +kernel)) rfl, by decide +kernel⟩
theorem fl_M_22 : Cond.fieldLink R_M 22 R_M "things" "I" ∈ tk := tk_of (List.mem_of_getElem? (i := 676) (by decide +kernel)) rfl
set_option maxHeartbeats 4000000 in
set_option maxRecDepth 100000 in
theorem c_M_put (g : gT) (l : Launch) (sz : Nat) (h0 a1 a2 a3 a4 : Nat) (n1 n2 n3 : Int32) (hd : Nat → Int32) (gd : Nat → Int32) (i t : Int32) : Mg g l y_M_put b_M_put 5 (some .int) 2 42 0 0 [.ref h0, .int i, .int t] [(h0, .inr (4, [.ref a1, .int n1, .ref a2, .int n2, .ref a3, .ref a4, .int n3])), (a3, .inl (gI g, 8, .inl hd)), (a4, .inl (gI g, 8, .inl gd))] sz (qI g (fun r w1 => r = (zp_M_put n3 hd gd i t).1 ∧ w1 = [(h0, .inr (4, [.ref a1, .int n1, .ref a2, .int n2, .ref a3, .ref a4, .int (zp_M_put n3 hd gd i t).2.1])), (a3, .inl (gI g, 8, .inl (zp_M_put n3 hd gd i t).2.2.1)), (a4, .inl (gI g, 8, .inl (zp_M_put n3 hd gd i t).2.2.2))])) := by
  refine mg_of (by decide) (Nat.le_of_ble_eq_true rfl) ?_
  intro p e s m below meth c ls A hx hb hF hr hlk hnm hA G hP hD hS hl
  have hK := G.2.1
  have hN := G.1
  have hl : lv_has ls 5 [(0, .ref h0), (1, .int i), (2, .int t)] := hl
  refine lv_iload_n hx hb d_M_put_0 rfl (lv_at hl 1 rfl) ?_
  refine lv_iconst (v := 0) hx hb d_M_put_1 (by decide) ?_
  refine lv_bipush (v := 7) hx hb d_M_put_2 (by decide) ?_
  refine pm_callE hF hN (c_M_in l i 0 7) k_M_in j_M_26 ⟨Nat.le_of_ble_eq_true rfl, Nat.le_of_ble_eq_true rfl⟩ rfl hl.1 (Nat.le_of_ble_eq_true rfl) d_M_put_4 ⟨by first | omega | exact Nat.zero_le _, by first | omega | exact Nat.zero_le _⟩ ?_
  refine lv_if_eq (tgt := 22) hx hb d_M_put_7 (by decide) (fun c_2 => ?_) (fun c_2 => ?_)
  · skip
    refine lv_iconst (v := (-1)) hx hb d_M_put_22 (by decide) ?_
    have e : zp_M_put n3 hd gd i t = (((-1) : Int32), n3, hd, gd) := by rw [zp_M_put, if_pos c_2]
    exact ret_i hx hb hr hlk (hP.sub (ws' := [(h0, .inr (4, [.ref a1, .int n1, .ref a2, .int n2, .ref a3, .ref a4, .int n3])), (a3, .inl (gI g, 8, .inl hd)), (a4, .inl (gI g, 8, .inl gd))]) [0, 1, 2] rfl) (hD.sub (ws' := [(h0, .inr (4, [.ref a1, .int n1, .ref a2, .int n2, .ref a3, .ref a4, .int n3])), (a3, .inl (gI g, 8, .inl hd)), (a4, .inl (gI g, 8, .inl gd))]) [0, 1, 2] rfl rfl) hS (nar_i _) ⟨by rw [e], by rw [e]⟩ (by first | exact Nat.le_of_ble_eq_true rfl | (dsimp only; omega) | omega) (by first | exact Nat.le_of_ble_eq_true rfl | (dsimp only; omega) | omega) d_M_put_23
  · skip
    refine lv_iload_n hx hb d_M_put_10 rfl (lv_at hl 2 rfl) ?_
    refine lv_iconst (v := (-1)) hx hb d_M_put_11 (by decide) ?_
    refine lv_icmp_eq (tgt := 24) hx hb d_M_put_12 (by decide) (fun c_3 => ?_) (fun c_3 => ?_)
    · skip
      refine jn_v (f := (f_M_alone t)) (pc2 := 59) (ls := ls) (rest := []) ?_ (fun kJ => ?_)
      · skip
        refine lv_istore_n (lv' := [(3, .int (f_M_alone t)), (0, .ref h0), (1, .int i), (2, .int t)]) hx hb d_M_put_59 rfl hl (by decide) rfl (fun ls hl => ?_)
        refine jn_v (f := (f_M_some t)) (pc2 := 116) (ls := ls) (rest := []) ?_ (fun kJ => ?_)
        · skip
          refine lv_istore (lv' := [(4, .int (f_M_some t)), (3, .int (f_M_alone t)), (0, .ref h0), (1, .int i), (2, .int t)]) hx hb d_M_put_116 hl (by decide) rfl (fun ls hl => ?_)
          refine lv_iload hx hb d_M_put_118 (lv_at hl 0 rfl) ?_
          refine lv_if_ne (tgt := 126) hx hb d_M_put_120 (by decide) (fun c_4 => ?_) (fun c_4 => ?_)
          · skip
            refine lv_aload_n hx hb d_M_put_126 rfl (lv_at hl 2 rfl) ?_
            refine lv_dup hx hb d_M_put_127 rfl ?_
            refine va_get (D := gD g) (ci := 4) (v := .int n3) (C := R_M) (T := F_M) (N := 7) hx hb hF.2.2.2.2 in_M hF.2.2.2.1 hK hP 0 rfl rfl 6 (by decide) (hF.2.2.2.2 _ fl_M_22) (fun _ h9 => h9) rfl d_M_put_128 ?_
            refine lv_iconst (v := 1) hx hb d_M_put_131 (by decide) ?_
            refine lv_iadd hx hb d_M_put_132 ?_
            refine va_put (D := gD g) (ci := 4) (v := .int (n3 + 1)) (ty := .int) (C := R_M) (T := F_M) (N := 7) hx hb hF.2.2.2.2 in_M t_M t_M_ok n_M hF.2.2.2.1 hK hP hD hS 0 rfl rfl 6 (by decide) (hF.2.2.2.2 _ fl_M_22) (fun _ h9 => h9) rfl (by decide +kernel) rfl rfl (Nat.le_of_ble_eq_true rfl) d_M_put_133 (fun H locs hP hD hS => ?_)
            have hP : va_P (gD g) classes [(h0, .inr (4, [.ref a1, .int n1, .ref a2, .int n2, .ref a3, .ref a4, .int (n3 + 1)])), (a3, .inl (gI g, 8, .inl hd)), (a4, .inl (gI g, 8, .inl gd))] H := hP
            have hD : va_D A [(h0, .inr (4, [.ref a1, .int n1, .ref a2, .int n2, .ref a3, .ref a4, .int (n3 + 1)])), (a3, .inl (gI g, 8, .inl hd)), (a4, .inl (gI g, 8, .inl gd))] := hD
            refine lv_aload_n hx hb d_M_put_136 rfl (lv_at hl 2 rfl) ?_
            refine va_get (D := gD g) (ci := 4) (v := .ref a3) (C := R_M) (T := F_M) (N := 7) hx hb hF.2.2.2.2 in_M hF.2.2.2.1 hK hP 0 rfl rfl 4 (by decide) (hF.2.2.2.2 _ fl_M_16) (fun _ h9 => h9) rfl d_M_put_137 ?_
            refine lv_iload_n hx hb d_M_put_140 rfl (lv_at hl 3 rfl) ?_
            refine lv_iload_n hx hb d_M_put_141 rfl (lv_at hl 4 rfl) ?_
            refine va_iast hx hb hK hP hD hS 1 0 rfl rfl (m_slot c_2) d_M_put_142 (fun H locs hP hD hS => ?_)
            have hP : va_P (gD g) classes [(h0, .inr (4, [.ref a1, .int n1, .ref a2, .int n2, .ref a3, .ref a4, .int (n3 + 1)])), (a3, .inl (gI g, 8, .inl (upd hd (i : Int32).toNatClampNeg t))), (a4, .inl (gI g, 8, .inl gd))] H := hP
            have hD : va_D A [(h0, .inr (4, [.ref a1, .int n1, .ref a2, .int n2, .ref a3, .ref a4, .int (n3 + 1)])), (a3, .inl (gI g, 8, .inl (upd hd (i : Int32).toNatClampNeg t))), (a4, .inl (gI g, 8, .inl gd))] := hD
            refine lv_aload_n hx hb d_M_put_143 rfl (lv_at hl 2 rfl) ?_
            refine va_get (D := gD g) (ci := 4) (v := .ref a4) (C := R_M) (T := F_M) (N := 7) hx hb hF.2.2.2.2 in_M hF.2.2.2.1 hK hP 0 rfl rfl 5 (by decide) (hF.2.2.2.2 _ fl_M_19) (fun _ h9 => h9) rfl d_M_put_144 ?_
            refine lv_iload_n hx hb d_M_put_147 rfl (lv_at hl 3 rfl) ?_
            refine lv_iload_n hx hb d_M_put_148 rfl (lv_at hl 1 rfl) ?_
            refine lv_if_eq (tgt := 156) hx hb d_M_put_149 (by decide) (fun c_5 => ?_) (fun c_5 => ?_)
            · skip
              refine lv_aload_n hx hb d_M_put_156 rfl (lv_at hl 2 rfl) ?_
              refine va_get (D := gD g) (ci := 4) (v := .int (n3 + 1)) (C := R_M) (T := F_M) (N := 7) hx hb hF.2.2.2.2 in_M hF.2.2.2.1 hK hP 0 rfl rfl 6 (by decide) (hF.2.2.2.2 _ fl_M_22) (fun _ h9 => h9) rfl d_M_put_157 ?_
              refine va_iast hx hb hK hP hD hS 2 0 rfl rfl (m_slot c_2) d_M_put_160 (fun H locs hP hD hS => ?_)
              have hP : va_P (gD g) classes [(h0, .inr (4, [.ref a1, .int n1, .ref a2, .int n2, .ref a3, .ref a4, .int (n3 + 1)])), (a3, .inl (gI g, 8, .inl (upd hd (i : Int32).toNatClampNeg t))), (a4, .inl (gI g, 8, .inl (upd gd (i : Int32).toNatClampNeg (n3 + 1))))] H := hP
              have hD : va_D A [(h0, .inr (4, [.ref a1, .int n1, .ref a2, .int n2, .ref a3, .ref a4, .int (n3 + 1)])), (a3, .inl (gI g, 8, .inl (upd hd (i : Int32).toNatClampNeg t))), (a4, .inl (gI g, 8, .inl (upd gd (i : Int32).toNatClampNeg (n3 + 1))))] := hD
              refine lv_iconst (v := 0) hx hb d_M_put_161 (by decide) ?_
              have e : zp_M_put n3 hd gd i t = ((0 : Int32), (n3 + 1), (upd hd (i : Int32).toNatClampNeg t), (upd gd (i : Int32).toNatClampNeg (n3 + 1))) := by rw [zp_M_put, if_neg c_2, if_pos c_3, if_neg c_4, if_pos c_5]
              exact ret_i hx hb hr hlk (hP.sub (ws' := [(h0, .inr (4, [.ref a1, .int n1, .ref a2, .int n2, .ref a3, .ref a4, .int (n3 + 1)])), (a3, .inl (gI g, 8, .inl (upd hd (i : Int32).toNatClampNeg t))), (a4, .inl (gI g, 8, .inl (upd gd (i : Int32).toNatClampNeg (n3 + 1))))]) [0, 1, 2] rfl) (hD.sub (ws' := [(h0, .inr (4, [.ref a1, .int n1, .ref a2, .int n2, .ref a3, .ref a4, .int (n3 + 1)])), (a3, .inl (gI g, 8, .inl (upd hd (i : Int32).toNatClampNeg t))), (a4, .inl (gI g, 8, .inl (upd gd (i : Int32).toNatClampNeg (n3 + 1))))]) [0, 1, 2] rfl rfl) hS (nar_i _) ⟨by rw [e], by rw [e]⟩ (by first | exact Nat.le_of_ble_eq_true rfl | (dsimp only; omega) | omega) (by first | exact Nat.le_of_ble_eq_true rfl | (dsimp only; omega) | omega) d_M_put_162
            · skip
              refine lv_iload_n hx hb d_M_put_152 rfl (lv_at hl 4 rfl) ?_
              refine lv_goto (tgt := 160) hx hb d_M_put_153 (by decide) ?_
              refine va_iast hx hb hK hP hD hS 2 0 rfl rfl (m_slot c_2) d_M_put_160 (fun H locs hP hD hS => ?_)
              have hP : va_P (gD g) classes [(h0, .inr (4, [.ref a1, .int n1, .ref a2, .int n2, .ref a3, .ref a4, .int (n3 + 1)])), (a3, .inl (gI g, 8, .inl (upd hd (i : Int32).toNatClampNeg t))), (a4, .inl (gI g, 8, .inl (upd gd (i : Int32).toNatClampNeg t)))] H := hP
              have hD : va_D A [(h0, .inr (4, [.ref a1, .int n1, .ref a2, .int n2, .ref a3, .ref a4, .int (n3 + 1)])), (a3, .inl (gI g, 8, .inl (upd hd (i : Int32).toNatClampNeg t))), (a4, .inl (gI g, 8, .inl (upd gd (i : Int32).toNatClampNeg t)))] := hD
              refine lv_iconst (v := 0) hx hb d_M_put_161 (by decide) ?_
              have e : zp_M_put n3 hd gd i t = ((0 : Int32), (n3 + 1), (upd hd (i : Int32).toNatClampNeg t), (upd gd (i : Int32).toNatClampNeg t)) := by rw [zp_M_put, if_neg c_2, if_pos c_3, if_neg c_4, if_neg c_5]
              exact ret_i hx hb hr hlk (hP.sub (ws' := [(h0, .inr (4, [.ref a1, .int n1, .ref a2, .int n2, .ref a3, .ref a4, .int (n3 + 1)])), (a3, .inl (gI g, 8, .inl (upd hd (i : Int32).toNatClampNeg t))), (a4, .inl (gI g, 8, .inl (upd gd (i : Int32).toNatClampNeg t)))]) [0, 1, 2] rfl) (hD.sub (ws' := [(h0, .inr (4, [.ref a1, .int n1, .ref a2, .int n2, .ref a3, .ref a4, .int (n3 + 1)])), (a3, .inl (gI g, 8, .inl (upd hd (i : Int32).toNatClampNeg t))), (a4, .inl (gI g, 8, .inl (upd gd (i : Int32).toNatClampNeg t)))]) [0, 1, 2] rfl rfl) hS (nar_i _) ⟨by rw [e], by rw [e]⟩ (by first | exact Nat.le_of_ble_eq_true rfl | (dsimp only; omega) | omega) (by first | exact Nat.le_of_ble_eq_true rfl | (dsimp only; omega) | omega) d_M_put_162
          · skip
            refine lv_bipush (v := (-2)) hx hb d_M_put_123 (by decide) ?_
            have e : zp_M_put n3 hd gd i t = (((-2) : Int32), n3, hd, gd) := by rw [zp_M_put, if_neg c_2, if_pos c_3, if_pos c_4]
            exact ret_i hx hb hr hlk (hP.sub (ws' := [(h0, .inr (4, [.ref a1, .int n1, .ref a2, .int n2, .ref a3, .ref a4, .int n3])), (a3, .inl (gI g, 8, .inl hd)), (a4, .inl (gI g, 8, .inl gd))]) [0, 1, 2] rfl) (hD.sub (ws' := [(h0, .inr (4, [.ref a1, .int n1, .ref a2, .int n2, .ref a3, .ref a4, .int n3])), (a3, .inl (gI g, 8, .inl hd)), (a4, .inl (gI g, 8, .inl gd))]) [0, 1, 2] rfl rfl) hS (nar_i _) ⟨by rw [e], by rw [e]⟩ (by first | exact Nat.le_of_ble_eq_true rfl | (dsimp only; omega) | omega) (by first | exact Nat.le_of_ble_eq_true rfl | (dsimp only; omega) | omega) d_M_put_125
        · skip
          refine lv_iload_n hx hb d_M_put_60 rfl (lv_at hl 3 rfl) ?_
          refine lv_iconst (v := (-1)) hx hb d_M_put_61 (by decide) ?_
          refine lv_icmp_eq (tgt := 111) hx hb d_M_put_62 (by decide) (fun c_6 => ?_) (fun c_6 => ?_)
          · skip
            refine lv_iconst (v := 1) hx hb d_M_put_111 (by decide) ?_
            refine lv_goto (tgt := 116) hx hb d_M_put_112 (by decide) ?_
            rw [show (f_M_some t) = 1 by rw [f_M_some, if_pos c_6]] at kJ
            exact kJ
          · skip
            refine lv_iload_n hx hb d_M_put_65 rfl (lv_at hl 0 rfl) ?_
            refine lv_if_ne (tgt := 111) hx hb d_M_put_66 (by decide) (fun c_7 => ?_) (fun c_7 => ?_)
            · skip
              refine lv_iconst (v := 1) hx hb d_M_put_111 (by decide) ?_
              refine lv_goto (tgt := 116) hx hb d_M_put_112 (by decide) ?_
              rw [show (f_M_some t) = 1 by rw [f_M_some, if_neg c_6, if_neg c_7]] at kJ
              exact kJ
            · skip
              refine lv_iload_n hx hb d_M_put_69 rfl (lv_at hl 3 rfl) ?_
              refine lv_bipush (v := 40) hx hb d_M_put_70 (by decide) ?_
              refine lv_icmp_ge (tgt := 111) hx hb d_M_put_72 (by decide) (fun c_8 => ?_) (fun c_8 => ?_)
              · skip
                refine lv_iconst (v := 1) hx hb d_M_put_111 (by decide) ?_
                refine lv_goto (tgt := 116) hx hb d_M_put_112 (by decide) ?_
                rw [show (f_M_some t) = 1 by rw [f_M_some, if_neg c_6, if_pos c_7, if_pos c_8]] at kJ
                exact kJ
              · skip
                refine lv_iload_n hx hb d_M_put_75 rfl (lv_at hl 3 rfl) ?_
                refine lv_bipush (v := 9) hx hb d_M_put_76 (by decide) ?_
                refine lv_icmp_eq (tgt := 111) hx hb d_M_put_78 (by decide) (fun c_9 => ?_) (fun c_9 => ?_)
                · skip
                  refine lv_iconst (v := 1) hx hb d_M_put_111 (by decide) ?_
                  refine lv_goto (tgt := 116) hx hb d_M_put_112 (by decide) ?_
                  rw [show (f_M_some t) = 1 by rw [f_M_some, if_neg c_6, if_pos c_7, if_neg c_8, if_pos c_9]] at kJ
                  exact kJ
                · skip
                  refine lv_iload_n hx hb d_M_put_81 rfl (lv_at hl 3 rfl) ?_
                  refine lv_bipush (v := 14) hx hb d_M_put_82 (by decide) ?_
                  refine lv_icmp_eq (tgt := 111) hx hb d_M_put_84 (by decide) (fun c_10 => ?_) (fun c_10 => ?_)
                  · skip
                    refine lv_iconst (v := 1) hx hb d_M_put_111 (by decide) ?_
                    refine lv_goto (tgt := 116) hx hb d_M_put_112 (by decide) ?_
                    rw [show (f_M_some t) = 1 by rw [f_M_some, if_neg c_6, if_pos c_7, if_neg c_8, if_neg c_9, if_pos c_10]] at kJ
                    exact kJ
                  · skip
                    refine lv_iload_n hx hb d_M_put_87 rfl (lv_at hl 3 rfl) ?_
                    refine lv_bipush (v := 15) hx hb d_M_put_88 (by decide) ?_
                    refine lv_icmp_eq (tgt := 111) hx hb d_M_put_90 (by decide) (fun c_11 => ?_) (fun c_11 => ?_)
                    · skip
                      refine lv_iconst (v := 1) hx hb d_M_put_111 (by decide) ?_
                      refine lv_goto (tgt := 116) hx hb d_M_put_112 (by decide) ?_
                      rw [show (f_M_some t) = 1 by rw [f_M_some, if_neg c_6, if_pos c_7, if_neg c_8, if_neg c_9, if_neg c_10, if_pos c_11]] at kJ
                      exact kJ
                    · skip
                      refine lv_iload_n hx hb d_M_put_93 rfl (lv_at hl 3 rfl) ?_
                      refine lv_bipush (v := 18) hx hb d_M_put_94 (by decide) ?_
                      refine lv_icmp_eq (tgt := 111) hx hb d_M_put_96 (by decide) (fun c_12 => ?_) (fun c_12 => ?_)
                      · skip
                        refine lv_iconst (v := 1) hx hb d_M_put_111 (by decide) ?_
                        refine lv_goto (tgt := 116) hx hb d_M_put_112 (by decide) ?_
                        rw [show (f_M_some t) = 1 by rw [f_M_some, if_neg c_6, if_pos c_7, if_neg c_8, if_neg c_9, if_neg c_10, if_neg c_11, if_pos c_12]] at kJ
                        exact kJ
                      · skip
                        refine lv_iload_n hx hb d_M_put_99 rfl (lv_at hl 3 rfl) ?_
                        refine lv_bipush (v := 19) hx hb d_M_put_100 (by decide) ?_
                        refine lv_icmp_eq (tgt := 111) hx hb d_M_put_102 (by decide) (fun c_13 => ?_) (fun c_13 => ?_)
                        · skip
                          refine lv_iconst (v := 1) hx hb d_M_put_111 (by decide) ?_
                          refine lv_goto (tgt := 116) hx hb d_M_put_112 (by decide) ?_
                          rw [show (f_M_some t) = 1 by rw [f_M_some, if_neg c_6, if_pos c_7, if_neg c_8, if_neg c_9, if_neg c_10, if_neg c_11, if_neg c_12, if_pos c_13]] at kJ
                          exact kJ
                        · skip
                          refine lv_iload_n hx hb d_M_put_105 rfl (lv_at hl 3 rfl) ?_
                          refine lv_bipush (v := 22) hx hb d_M_put_106 (by decide) ?_
                          refine lv_icmp_ne (tgt := 115) hx hb d_M_put_108 (by decide) (fun c_14 => ?_) (fun c_14 => ?_)
                          · skip
                            refine lv_iconst (v := 0) hx hb d_M_put_115 (by decide) ?_
                            rw [show (f_M_some t) = 0 by rw [f_M_some, if_neg c_6, if_pos c_7, if_neg c_8, if_neg c_9, if_neg c_10, if_neg c_11, if_neg c_12, if_neg c_13, if_neg c_14]] at kJ
                            exact kJ
                          · skip
                            refine lv_iconst (v := 1) hx hb d_M_put_111 (by decide) ?_
                            refine lv_goto (tgt := 116) hx hb d_M_put_112 (by decide) ?_
                            rw [show (f_M_some t) = 1 by rw [f_M_some, if_neg c_6, if_pos c_7, if_neg c_8, if_neg c_9, if_neg c_10, if_neg c_11, if_neg c_12, if_neg c_13, if_pos c_14]] at kJ
                            exact kJ
      · skip
        refine lv_iload_n hx hb d_M_put_24 rfl (lv_at hl 2 rfl) ?_
        refine lv_bipush (v := 11) hx hb d_M_put_25 (by decide) ?_
        refine lv_icmp_eq (tgt := 54) hx hb d_M_put_27 (by decide) (fun c_15 => ?_) (fun c_15 => ?_)
        · skip
          refine lv_iconst (v := 1) hx hb d_M_put_54 (by decide) ?_
          refine lv_goto (tgt := 59) hx hb d_M_put_55 (by decide) ?_
          rw [show (f_M_alone t) = 1 by rw [f_M_alone, if_pos c_15]] at kJ
          exact kJ
        · skip
          refine lv_iload_n hx hb d_M_put_30 rfl (lv_at hl 2 rfl) ?_
          refine lv_bipush (v := 16) hx hb d_M_put_31 (by decide) ?_
          refine lv_icmp_eq (tgt := 54) hx hb d_M_put_33 (by decide) (fun c_16 => ?_) (fun c_16 => ?_)
          · skip
            refine lv_iconst (v := 1) hx hb d_M_put_54 (by decide) ?_
            refine lv_goto (tgt := 59) hx hb d_M_put_55 (by decide) ?_
            rw [show (f_M_alone t) = 1 by rw [f_M_alone, if_neg c_15, if_pos c_16]] at kJ
            exact kJ
          · skip
            refine lv_iload_n hx hb d_M_put_36 rfl (lv_at hl 2 rfl) ?_
            refine lv_bipush (v := 17) hx hb d_M_put_37 (by decide) ?_
            refine lv_icmp_eq (tgt := 54) hx hb d_M_put_39 (by decide) (fun c_17 => ?_) (fun c_17 => ?_)
            · skip
              refine lv_iconst (v := 1) hx hb d_M_put_54 (by decide) ?_
              refine lv_goto (tgt := 59) hx hb d_M_put_55 (by decide) ?_
              rw [show (f_M_alone t) = 1 by rw [f_M_alone, if_neg c_15, if_neg c_16, if_pos c_17]] at kJ
              exact kJ
            · skip
              refine lv_iload_n hx hb d_M_put_42 rfl (lv_at hl 2 rfl) ?_
              refine lv_bipush (v := 23) hx hb d_M_put_43 (by decide) ?_
              refine lv_icmp_eq (tgt := 54) hx hb d_M_put_45 (by decide) (fun c_18 => ?_) (fun c_18 => ?_)
              · skip
                refine lv_iconst (v := 1) hx hb d_M_put_54 (by decide) ?_
                refine lv_goto (tgt := 59) hx hb d_M_put_55 (by decide) ?_
                rw [show (f_M_alone t) = 1 by rw [f_M_alone, if_neg c_15, if_neg c_16, if_neg c_17, if_pos c_18]] at kJ
                exact kJ
              · skip
                refine lv_iload_n hx hb d_M_put_48 rfl (lv_at hl 2 rfl) ?_
                refine lv_bipush (v := 24) hx hb d_M_put_49 (by decide) ?_
                refine lv_icmp_ne (tgt := 58) hx hb d_M_put_51 (by decide) (fun c_19 => ?_) (fun c_19 => ?_)
                · skip
                  refine lv_iconst (v := 0) hx hb d_M_put_58 (by decide) ?_
                  rw [show (f_M_alone t) = 0 by rw [f_M_alone, if_neg c_15, if_neg c_16, if_neg c_17, if_neg c_18, if_neg c_19]] at kJ
                  exact kJ
                · skip
                  refine lv_iconst (v := 1) hx hb d_M_put_54 (by decide) ?_
                  refine lv_goto (tgt := 59) hx hb d_M_put_55 (by decide) ?_
                  rw [show (f_M_alone t) = 1 by rw [f_M_alone, if_neg c_15, if_neg c_16, if_neg c_17, if_neg c_18, if_pos c_19]] at kJ
                  exact kJ
    · skip
      refine lv_iload_n hx hb d_M_put_15 rfl (lv_at hl 2 rfl) ?_
      refine pm_callE hF hN (c_M_isType l t) k_M_isType j_M_167 ⟨Nat.le_of_ble_eq_true rfl, Nat.le_of_ble_eq_true rfl⟩ rfl hl.1 (Nat.le_of_ble_eq_true rfl) d_M_put_16 ⟨by first | omega | exact Nat.zero_le _, by first | omega | exact Nat.zero_le _⟩ ?_
      refine lv_if_ne (tgt := 24) hx hb d_M_put_19 (by decide) (fun c_21 => ?_) (fun c_21 => ?_)
      · skip
        refine jn_v (f := (f_M_alone t)) (pc2 := 59) (ls := ls) (rest := []) ?_ (fun kJ => ?_)
        · skip
          refine lv_istore_n (lv' := [(3, .int (f_M_alone t)), (0, .ref h0), (1, .int i), (2, .int t)]) hx hb d_M_put_59 rfl hl (by decide) rfl (fun ls hl => ?_)
          refine jn_v (f := (f_M_some t)) (pc2 := 116) (ls := ls) (rest := []) ?_ (fun kJ => ?_)
          · skip
            refine lv_istore (lv' := [(4, .int (f_M_some t)), (3, .int (f_M_alone t)), (0, .ref h0), (1, .int i), (2, .int t)]) hx hb d_M_put_116 hl (by decide) rfl (fun ls hl => ?_)
            refine lv_iload hx hb d_M_put_118 (lv_at hl 0 rfl) ?_
            refine lv_if_ne (tgt := 126) hx hb d_M_put_120 (by decide) (fun c_22 => ?_) (fun c_22 => ?_)
            · skip
              refine lv_aload_n hx hb d_M_put_126 rfl (lv_at hl 2 rfl) ?_
              refine lv_dup hx hb d_M_put_127 rfl ?_
              refine va_get (D := gD g) (ci := 4) (v := .int n3) (C := R_M) (T := F_M) (N := 7) hx hb hF.2.2.2.2 in_M hF.2.2.2.1 hK hP 0 rfl rfl 6 (by decide) (hF.2.2.2.2 _ fl_M_22) (fun _ h9 => h9) rfl d_M_put_128 ?_
              refine lv_iconst (v := 1) hx hb d_M_put_131 (by decide) ?_
              refine lv_iadd hx hb d_M_put_132 ?_
              refine va_put (D := gD g) (ci := 4) (v := .int (n3 + 1)) (ty := .int) (C := R_M) (T := F_M) (N := 7) hx hb hF.2.2.2.2 in_M t_M t_M_ok n_M hF.2.2.2.1 hK hP hD hS 0 rfl rfl 6 (by decide) (hF.2.2.2.2 _ fl_M_22) (fun _ h9 => h9) rfl (by decide +kernel) rfl rfl (Nat.le_of_ble_eq_true rfl) d_M_put_133 (fun H locs hP hD hS => ?_)
              have hP : va_P (gD g) classes [(h0, .inr (4, [.ref a1, .int n1, .ref a2, .int n2, .ref a3, .ref a4, .int (n3 + 1)])), (a3, .inl (gI g, 8, .inl hd)), (a4, .inl (gI g, 8, .inl gd))] H := hP
              have hD : va_D A [(h0, .inr (4, [.ref a1, .int n1, .ref a2, .int n2, .ref a3, .ref a4, .int (n3 + 1)])), (a3, .inl (gI g, 8, .inl hd)), (a4, .inl (gI g, 8, .inl gd))] := hD
              refine lv_aload_n hx hb d_M_put_136 rfl (lv_at hl 2 rfl) ?_
              refine va_get (D := gD g) (ci := 4) (v := .ref a3) (C := R_M) (T := F_M) (N := 7) hx hb hF.2.2.2.2 in_M hF.2.2.2.1 hK hP 0 rfl rfl 4 (by decide) (hF.2.2.2.2 _ fl_M_16) (fun _ h9 => h9) rfl d_M_put_137 ?_
              refine lv_iload_n hx hb d_M_put_140 rfl (lv_at hl 3 rfl) ?_
              refine lv_iload_n hx hb d_M_put_141 rfl (lv_at hl 4 rfl) ?_
              refine va_iast hx hb hK hP hD hS 1 0 rfl rfl (m_slot c_2) d_M_put_142 (fun H locs hP hD hS => ?_)
              have hP : va_P (gD g) classes [(h0, .inr (4, [.ref a1, .int n1, .ref a2, .int n2, .ref a3, .ref a4, .int (n3 + 1)])), (a3, .inl (gI g, 8, .inl (upd hd (i : Int32).toNatClampNeg t))), (a4, .inl (gI g, 8, .inl gd))] H := hP
              have hD : va_D A [(h0, .inr (4, [.ref a1, .int n1, .ref a2, .int n2, .ref a3, .ref a4, .int (n3 + 1)])), (a3, .inl (gI g, 8, .inl (upd hd (i : Int32).toNatClampNeg t))), (a4, .inl (gI g, 8, .inl gd))] := hD
              refine lv_aload_n hx hb d_M_put_143 rfl (lv_at hl 2 rfl) ?_
              refine va_get (D := gD g) (ci := 4) (v := .ref a4) (C := R_M) (T := F_M) (N := 7) hx hb hF.2.2.2.2 in_M hF.2.2.2.1 hK hP 0 rfl rfl 5 (by decide) (hF.2.2.2.2 _ fl_M_19) (fun _ h9 => h9) rfl d_M_put_144 ?_
              refine lv_iload_n hx hb d_M_put_147 rfl (lv_at hl 3 rfl) ?_
              refine lv_iload_n hx hb d_M_put_148 rfl (lv_at hl 1 rfl) ?_
              refine lv_if_eq (tgt := 156) hx hb d_M_put_149 (by decide) (fun c_23 => ?_) (fun c_23 => ?_)
              · skip
                refine lv_aload_n hx hb d_M_put_156 rfl (lv_at hl 2 rfl) ?_
                refine va_get (D := gD g) (ci := 4) (v := .int (n3 + 1)) (C := R_M) (T := F_M) (N := 7) hx hb hF.2.2.2.2 in_M hF.2.2.2.1 hK hP 0 rfl rfl 6 (by decide) (hF.2.2.2.2 _ fl_M_22) (fun _ h9 => h9) rfl d_M_put_157 ?_
                refine va_iast hx hb hK hP hD hS 2 0 rfl rfl (m_slot c_2) d_M_put_160 (fun H locs hP hD hS => ?_)
                have hP : va_P (gD g) classes [(h0, .inr (4, [.ref a1, .int n1, .ref a2, .int n2, .ref a3, .ref a4, .int (n3 + 1)])), (a3, .inl (gI g, 8, .inl (upd hd (i : Int32).toNatClampNeg t))), (a4, .inl (gI g, 8, .inl (upd gd (i : Int32).toNatClampNeg (n3 + 1))))] H := hP
                have hD : va_D A [(h0, .inr (4, [.ref a1, .int n1, .ref a2, .int n2, .ref a3, .ref a4, .int (n3 + 1)])), (a3, .inl (gI g, 8, .inl (upd hd (i : Int32).toNatClampNeg t))), (a4, .inl (gI g, 8, .inl (upd gd (i : Int32).toNatClampNeg (n3 + 1))))] := hD
                refine lv_iconst (v := 0) hx hb d_M_put_161 (by decide) ?_
                have e : zp_M_put n3 hd gd i t = ((0 : Int32), (n3 + 1), (upd hd (i : Int32).toNatClampNeg t), (upd gd (i : Int32).toNatClampNeg (n3 + 1))) := by rw [zp_M_put, if_neg c_2, if_neg c_3, if_neg c_21, if_neg c_22, if_pos c_23]
                exact ret_i hx hb hr hlk (hP.sub (ws' := [(h0, .inr (4, [.ref a1, .int n1, .ref a2, .int n2, .ref a3, .ref a4, .int (n3 + 1)])), (a3, .inl (gI g, 8, .inl (upd hd (i : Int32).toNatClampNeg t))), (a4, .inl (gI g, 8, .inl (upd gd (i : Int32).toNatClampNeg (n3 + 1))))]) [0, 1, 2] rfl) (hD.sub (ws' := [(h0, .inr (4, [.ref a1, .int n1, .ref a2, .int n2, .ref a3, .ref a4, .int (n3 + 1)])), (a3, .inl (gI g, 8, .inl (upd hd (i : Int32).toNatClampNeg t))), (a4, .inl (gI g, 8, .inl (upd gd (i : Int32).toNatClampNeg (n3 + 1))))]) [0, 1, 2] rfl rfl) hS (nar_i _) ⟨by rw [e], by rw [e]⟩ (by first | exact Nat.le_of_ble_eq_true rfl | (dsimp only; omega) | omega) (by first | exact Nat.le_of_ble_eq_true rfl | (dsimp only; omega) | omega) d_M_put_162
              · skip
                refine lv_iload_n hx hb d_M_put_152 rfl (lv_at hl 4 rfl) ?_
                refine lv_goto (tgt := 160) hx hb d_M_put_153 (by decide) ?_
                refine va_iast hx hb hK hP hD hS 2 0 rfl rfl (m_slot c_2) d_M_put_160 (fun H locs hP hD hS => ?_)
                have hP : va_P (gD g) classes [(h0, .inr (4, [.ref a1, .int n1, .ref a2, .int n2, .ref a3, .ref a4, .int (n3 + 1)])), (a3, .inl (gI g, 8, .inl (upd hd (i : Int32).toNatClampNeg t))), (a4, .inl (gI g, 8, .inl (upd gd (i : Int32).toNatClampNeg t)))] H := hP
                have hD : va_D A [(h0, .inr (4, [.ref a1, .int n1, .ref a2, .int n2, .ref a3, .ref a4, .int (n3 + 1)])), (a3, .inl (gI g, 8, .inl (upd hd (i : Int32).toNatClampNeg t))), (a4, .inl (gI g, 8, .inl (upd gd (i : Int32).toNatClampNeg t)))] := hD
                refine lv_iconst (v := 0) hx hb d_M_put_161 (by decide) ?_
                have e : zp_M_put n3 hd gd i t = ((0 : Int32), (n3 + 1), (upd hd (i : Int32).toNatClampNeg t), (upd gd (i : Int32).toNatClampNeg t)) := by rw [zp_M_put, if_neg c_2, if_neg c_3, if_neg c_21, if_neg c_22, if_neg c_23]
                exact ret_i hx hb hr hlk (hP.sub (ws' := [(h0, .inr (4, [.ref a1, .int n1, .ref a2, .int n2, .ref a3, .ref a4, .int (n3 + 1)])), (a3, .inl (gI g, 8, .inl (upd hd (i : Int32).toNatClampNeg t))), (a4, .inl (gI g, 8, .inl (upd gd (i : Int32).toNatClampNeg t)))]) [0, 1, 2] rfl) (hD.sub (ws' := [(h0, .inr (4, [.ref a1, .int n1, .ref a2, .int n2, .ref a3, .ref a4, .int (n3 + 1)])), (a3, .inl (gI g, 8, .inl (upd hd (i : Int32).toNatClampNeg t))), (a4, .inl (gI g, 8, .inl (upd gd (i : Int32).toNatClampNeg t)))]) [0, 1, 2] rfl rfl) hS (nar_i _) ⟨by rw [e], by rw [e]⟩ (by first | exact Nat.le_of_ble_eq_true rfl | (dsimp only; omega) | omega) (by first | exact Nat.le_of_ble_eq_true rfl | (dsimp only; omega) | omega) d_M_put_162
            · skip
              refine lv_bipush (v := (-2)) hx hb d_M_put_123 (by decide) ?_
              have e : zp_M_put n3 hd gd i t = (((-2) : Int32), n3, hd, gd) := by rw [zp_M_put, if_neg c_2, if_neg c_3, if_neg c_21, if_pos c_22]
              exact ret_i hx hb hr hlk (hP.sub (ws' := [(h0, .inr (4, [.ref a1, .int n1, .ref a2, .int n2, .ref a3, .ref a4, .int n3])), (a3, .inl (gI g, 8, .inl hd)), (a4, .inl (gI g, 8, .inl gd))]) [0, 1, 2] rfl) (hD.sub (ws' := [(h0, .inr (4, [.ref a1, .int n1, .ref a2, .int n2, .ref a3, .ref a4, .int n3])), (a3, .inl (gI g, 8, .inl hd)), (a4, .inl (gI g, 8, .inl gd))]) [0, 1, 2] rfl rfl) hS (nar_i _) ⟨by rw [e], by rw [e]⟩ (by first | exact Nat.le_of_ble_eq_true rfl | (dsimp only; omega) | omega) (by first | exact Nat.le_of_ble_eq_true rfl | (dsimp only; omega) | omega) d_M_put_125
          · skip
            refine lv_iload_n hx hb d_M_put_60 rfl (lv_at hl 3 rfl) ?_
            refine lv_iconst (v := (-1)) hx hb d_M_put_61 (by decide) ?_
            refine lv_icmp_eq (tgt := 111) hx hb d_M_put_62 (by decide) (fun c_24 => ?_) (fun c_24 => ?_)
            · skip
              refine lv_iconst (v := 1) hx hb d_M_put_111 (by decide) ?_
              refine lv_goto (tgt := 116) hx hb d_M_put_112 (by decide) ?_
              rw [show (f_M_some t) = 1 by rw [f_M_some, if_pos c_24]] at kJ
              exact kJ
            · skip
              refine lv_iload_n hx hb d_M_put_65 rfl (lv_at hl 0 rfl) ?_
              refine lv_if_ne (tgt := 111) hx hb d_M_put_66 (by decide) (fun c_25 => ?_) (fun c_25 => ?_)
              · skip
                refine lv_iconst (v := 1) hx hb d_M_put_111 (by decide) ?_
                refine lv_goto (tgt := 116) hx hb d_M_put_112 (by decide) ?_
                rw [show (f_M_some t) = 1 by rw [f_M_some, if_neg c_24, if_neg c_25]] at kJ
                exact kJ
              · skip
                refine lv_iload_n hx hb d_M_put_69 rfl (lv_at hl 3 rfl) ?_
                refine lv_bipush (v := 40) hx hb d_M_put_70 (by decide) ?_
                refine lv_icmp_ge (tgt := 111) hx hb d_M_put_72 (by decide) (fun c_26 => ?_) (fun c_26 => ?_)
                · skip
                  refine lv_iconst (v := 1) hx hb d_M_put_111 (by decide) ?_
                  refine lv_goto (tgt := 116) hx hb d_M_put_112 (by decide) ?_
                  rw [show (f_M_some t) = 1 by rw [f_M_some, if_neg c_24, if_pos c_25, if_pos c_26]] at kJ
                  exact kJ
                · skip
                  refine lv_iload_n hx hb d_M_put_75 rfl (lv_at hl 3 rfl) ?_
                  refine lv_bipush (v := 9) hx hb d_M_put_76 (by decide) ?_
                  refine lv_icmp_eq (tgt := 111) hx hb d_M_put_78 (by decide) (fun c_27 => ?_) (fun c_27 => ?_)
                  · skip
                    refine lv_iconst (v := 1) hx hb d_M_put_111 (by decide) ?_
                    refine lv_goto (tgt := 116) hx hb d_M_put_112 (by decide) ?_
                    rw [show (f_M_some t) = 1 by rw [f_M_some, if_neg c_24, if_pos c_25, if_neg c_26, if_pos c_27]] at kJ
                    exact kJ
                  · skip
                    refine lv_iload_n hx hb d_M_put_81 rfl (lv_at hl 3 rfl) ?_
                    refine lv_bipush (v := 14) hx hb d_M_put_82 (by decide) ?_
                    refine lv_icmp_eq (tgt := 111) hx hb d_M_put_84 (by decide) (fun c_28 => ?_) (fun c_28 => ?_)
                    · skip
                      refine lv_iconst (v := 1) hx hb d_M_put_111 (by decide) ?_
                      refine lv_goto (tgt := 116) hx hb d_M_put_112 (by decide) ?_
                      rw [show (f_M_some t) = 1 by rw [f_M_some, if_neg c_24, if_pos c_25, if_neg c_26, if_neg c_27, if_pos c_28]] at kJ
                      exact kJ
                    · skip
                      refine lv_iload_n hx hb d_M_put_87 rfl (lv_at hl 3 rfl) ?_
                      refine lv_bipush (v := 15) hx hb d_M_put_88 (by decide) ?_
                      refine lv_icmp_eq (tgt := 111) hx hb d_M_put_90 (by decide) (fun c_29 => ?_) (fun c_29 => ?_)
                      · skip
                        refine lv_iconst (v := 1) hx hb d_M_put_111 (by decide) ?_
                        refine lv_goto (tgt := 116) hx hb d_M_put_112 (by decide) ?_
                        rw [show (f_M_some t) = 1 by rw [f_M_some, if_neg c_24, if_pos c_25, if_neg c_26, if_neg c_27, if_neg c_28, if_pos c_29]] at kJ
                        exact kJ
                      · skip
                        refine lv_iload_n hx hb d_M_put_93 rfl (lv_at hl 3 rfl) ?_
                        refine lv_bipush (v := 18) hx hb d_M_put_94 (by decide) ?_
                        refine lv_icmp_eq (tgt := 111) hx hb d_M_put_96 (by decide) (fun c_30 => ?_) (fun c_30 => ?_)
                        · skip
                          refine lv_iconst (v := 1) hx hb d_M_put_111 (by decide) ?_
                          refine lv_goto (tgt := 116) hx hb d_M_put_112 (by decide) ?_
                          rw [show (f_M_some t) = 1 by rw [f_M_some, if_neg c_24, if_pos c_25, if_neg c_26, if_neg c_27, if_neg c_28, if_neg c_29, if_pos c_30]] at kJ
                          exact kJ
                        · skip
                          refine lv_iload_n hx hb d_M_put_99 rfl (lv_at hl 3 rfl) ?_
                          refine lv_bipush (v := 19) hx hb d_M_put_100 (by decide) ?_
                          refine lv_icmp_eq (tgt := 111) hx hb d_M_put_102 (by decide) (fun c_31 => ?_) (fun c_31 => ?_)
                          · skip
                            refine lv_iconst (v := 1) hx hb d_M_put_111 (by decide) ?_
                            refine lv_goto (tgt := 116) hx hb d_M_put_112 (by decide) ?_
                            rw [show (f_M_some t) = 1 by rw [f_M_some, if_neg c_24, if_pos c_25, if_neg c_26, if_neg c_27, if_neg c_28, if_neg c_29, if_neg c_30, if_pos c_31]] at kJ
                            exact kJ
                          · skip
                            refine lv_iload_n hx hb d_M_put_105 rfl (lv_at hl 3 rfl) ?_
                            refine lv_bipush (v := 22) hx hb d_M_put_106 (by decide) ?_
                            refine lv_icmp_ne (tgt := 115) hx hb d_M_put_108 (by decide) (fun c_32 => ?_) (fun c_32 => ?_)
                            · skip
                              refine lv_iconst (v := 0) hx hb d_M_put_115 (by decide) ?_
                              rw [show (f_M_some t) = 0 by rw [f_M_some, if_neg c_24, if_pos c_25, if_neg c_26, if_neg c_27, if_neg c_28, if_neg c_29, if_neg c_30, if_neg c_31, if_neg c_32]] at kJ
                              exact kJ
                            · skip
                              refine lv_iconst (v := 1) hx hb d_M_put_111 (by decide) ?_
                              refine lv_goto (tgt := 116) hx hb d_M_put_112 (by decide) ?_
                              rw [show (f_M_some t) = 1 by rw [f_M_some, if_neg c_24, if_pos c_25, if_neg c_26, if_neg c_27, if_neg c_28, if_neg c_29, if_neg c_30, if_neg c_31, if_pos c_32]] at kJ
                              exact kJ
        · skip
          refine lv_iload_n hx hb d_M_put_24 rfl (lv_at hl 2 rfl) ?_
          refine lv_bipush (v := 11) hx hb d_M_put_25 (by decide) ?_
          refine lv_icmp_eq (tgt := 54) hx hb d_M_put_27 (by decide) (fun c_33 => ?_) (fun c_33 => ?_)
          · skip
            refine lv_iconst (v := 1) hx hb d_M_put_54 (by decide) ?_
            refine lv_goto (tgt := 59) hx hb d_M_put_55 (by decide) ?_
            rw [show (f_M_alone t) = 1 by rw [f_M_alone, if_pos c_33]] at kJ
            exact kJ
          · skip
            refine lv_iload_n hx hb d_M_put_30 rfl (lv_at hl 2 rfl) ?_
            refine lv_bipush (v := 16) hx hb d_M_put_31 (by decide) ?_
            refine lv_icmp_eq (tgt := 54) hx hb d_M_put_33 (by decide) (fun c_34 => ?_) (fun c_34 => ?_)
            · skip
              refine lv_iconst (v := 1) hx hb d_M_put_54 (by decide) ?_
              refine lv_goto (tgt := 59) hx hb d_M_put_55 (by decide) ?_
              rw [show (f_M_alone t) = 1 by rw [f_M_alone, if_neg c_33, if_pos c_34]] at kJ
              exact kJ
            · skip
              refine lv_iload_n hx hb d_M_put_36 rfl (lv_at hl 2 rfl) ?_
              refine lv_bipush (v := 17) hx hb d_M_put_37 (by decide) ?_
              refine lv_icmp_eq (tgt := 54) hx hb d_M_put_39 (by decide) (fun c_35 => ?_) (fun c_35 => ?_)
              · skip
                refine lv_iconst (v := 1) hx hb d_M_put_54 (by decide) ?_
                refine lv_goto (tgt := 59) hx hb d_M_put_55 (by decide) ?_
                rw [show (f_M_alone t) = 1 by rw [f_M_alone, if_neg c_33, if_neg c_34, if_pos c_35]] at kJ
                exact kJ
              · skip
                refine lv_iload_n hx hb d_M_put_42 rfl (lv_at hl 2 rfl) ?_
                refine lv_bipush (v := 23) hx hb d_M_put_43 (by decide) ?_
                refine lv_icmp_eq (tgt := 54) hx hb d_M_put_45 (by decide) (fun c_36 => ?_) (fun c_36 => ?_)
                · skip
                  refine lv_iconst (v := 1) hx hb d_M_put_54 (by decide) ?_
                  refine lv_goto (tgt := 59) hx hb d_M_put_55 (by decide) ?_
                  rw [show (f_M_alone t) = 1 by rw [f_M_alone, if_neg c_33, if_neg c_34, if_neg c_35, if_pos c_36]] at kJ
                  exact kJ
                · skip
                  refine lv_iload_n hx hb d_M_put_48 rfl (lv_at hl 2 rfl) ?_
                  refine lv_bipush (v := 24) hx hb d_M_put_49 (by decide) ?_
                  refine lv_icmp_ne (tgt := 58) hx hb d_M_put_51 (by decide) (fun c_37 => ?_) (fun c_37 => ?_)
                  · skip
                    refine lv_iconst (v := 0) hx hb d_M_put_58 (by decide) ?_
                    rw [show (f_M_alone t) = 0 by rw [f_M_alone, if_neg c_33, if_neg c_34, if_neg c_35, if_neg c_36, if_neg c_37]] at kJ
                    exact kJ
                  · skip
                    refine lv_iconst (v := 1) hx hb d_M_put_54 (by decide) ?_
                    refine lv_goto (tgt := 59) hx hb d_M_put_55 (by decide) ?_
                    rw [show (f_M_alone t) = 1 by rw [f_M_alone, if_neg c_33, if_neg c_34, if_neg c_35, if_neg c_36, if_pos c_37]] at kJ
                    exact kJ
      · skip
        refine lv_iconst (v := (-1)) hx hb d_M_put_22 (by decide) ?_
        have e : zp_M_put n3 hd gd i t = (((-1) : Int32), n3, hd, gd) := by rw [zp_M_put, if_neg c_2, if_neg c_3, if_pos c_21]
        exact ret_i hx hb hr hlk (hP.sub (ws' := [(h0, .inr (4, [.ref a1, .int n1, .ref a2, .int n2, .ref a3, .ref a4, .int n3])), (a3, .inl (gI g, 8, .inl hd)), (a4, .inl (gI g, 8, .inl gd))]) [0, 1, 2] rfl) (hD.sub (ws' := [(h0, .inr (4, [.ref a1, .int n1, .ref a2, .int n2, .ref a3, .ref a4, .int n3])), (a3, .inl (gI g, 8, .inl hd)), (a4, .inl (gI g, 8, .inl gd))]) [0, 1, 2] rfl rfl) hS (nar_i _) ⟨by rw [e], by rw [e]⟩ (by first | exact Nat.le_of_ble_eq_true rfl | (dsimp only; omega) | omega) (by first | exact Nat.le_of_ble_eq_true rfl | (dsimp only; omega) | omega) d_M_put_23
