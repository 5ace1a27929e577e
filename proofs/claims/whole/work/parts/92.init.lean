theorem u_lt {f : Nat → Int32} (h : ∀ j, f j < 120) (k : Nat) (x : Int32) (hx : x < 120) : ∀ j, upd f k x j < 120 := fun j => by
  rw [upd]
  by_cases q : j = k
  · rw [if_pos q]; exact hx
  · rw [if_neg q]; exact h j
set_option maxRecDepth 100000 in
theorem k_A_init : ck y_A_init b_A_init 2 (none) 1 (.instanceMethod y_A_init) := ⟨tk_of (List.mem_of_getElem? (i := 73) rfl) rfl, tk_of (List.mem_of_getElem? (i := 72) (by decide +kernel)) rfl, tk_of (List.mem_of_getElem? (i := 38) (by decide +kernel)) rfl, by decide +kernel⟩
theorem j_A_3 : Cond.methodLink R_A 3 objectInit ∈ tk := tk_of (List.mem_of_getElem? (i := 74) (by decide +kernel)) rfl
theorem oi_inst : Cond.instanceMethod objectInit ∈ tk := tk_of (List.mem_of_getElem? (i := 58) (by decide +kernel)) rfl
theorem oi_code : Cond.code objectInit ⟨#[0xb1]⟩ 1 none ∈ tk := tk_of (List.mem_of_getElem? (i := 59) (by decide +kernel)) rfl
set_option maxHeartbeats 4000000 in
set_option maxRecDepth 100000 in
theorem c_A_init (g : gT) (l : Launch) (sz : Nat) (b : Nat) : Mg g l y_A_init b_A_init 2 (none) 1 24 1 16 [.ref b, .int 16] [(b, .inr (3, [.null, .int 0, .int 0, .int 0]))] sz (qV g (fun w1 => ∃ v : Nat, w1 = [(b, .inr (3, [.ref v, .int 0, .int 0, .int 0])), (v, .inl (gB g, 16, .inl (fun _ => 0)))])) := by
  refine mg_of (by decide) (Nat.le_of_ble_eq_true rfl) ?_
  intro p e s m below meth c ls A hx hb hF hr hlk hnm hA G hP hD hS hl
  have hK := G.2.1
  have hN := G.1
  have hin : meth.name = "<init>" := hnm
  have hl : lv_has ls 2 [(0, .ref b), (1, .int 16)] := hl
  refine lv_aload_n hx hb d_A_init_0 rfl (lv_at hl 0 rfl) ?_
  refine W.objInit hx hb hF.2.2.2.1 (hF.2.2.2.2 _ j_A_3) (hF.2.2.2.2 _ oi_inst) (hF.2.2.2.2 _ oi_code) rfl (by rw [hF.2.2.1]; exact hl.1) rfl d_A_init_1 (Nat.le_of_ble_eq_true rfl) (Nat.le_of_ble_eq_true rfl) ?_
  refine W.eq (g2 := F0 m 4 ls []) rfl ?_
  refine va_gets hx hb G.2.2.2.2.1 hS hF.2.2.2.1 (hF.2.2.2.2 _ fl_A_18) (fun _ h9 => h9) d_A_init_4 ?_
  refine lv_if_eq (tgt := 25) hx hb d_A_init_7 (by decide) (fun c_1 => ?_) (fun c_1 => ?_)
  · exact absurd c_1 (by decide)
  · skip
    refine lv_aload_n hx hb d_A_init_10 rfl (lv_at hl 0 rfl) ?_
    refine lv_iload_n hx hb d_A_init_11 rfl (lv_at hl 1 rfl) ?_
    refine va_newa (atype := .byte) (D := gD g) (cl := classes) (tys := gTy g) hx hb (hF.2.2.2.2 _ ac_byte) (ty := .byte) rfl hK hP hD hS hA (N' := 16) (a0 := (16, .inl (fun _ => 0))) (fun _ => rfl) (by decide) (by decide) (by decide) (by first | omega | decide) (by first | omega | decide) d_A_init_12 (fun q_2 cA H hK2 hP hD hS => ?_)
    obtain rfl := cA_byte hK2
    have hP : va_P (gD g) classes [(b, .inr (3, [.null, .int 0, .int 0, .int 0])), (q_2, .inl (gB g, 16, .inl (fun _ => 0)))] H := hP
    have hD : va_D A [(b, .inr (3, [.null, .int 0, .int 0, .int 0])), (q_2, .inl (gB g, 16, .inl (fun _ => 0)))] := hD
    refine va_put (D := gD g) (ci := 3) (v := .ref q_2) (ty := .array .byte) (C := R_SB) (T := F_SB) (N := 4) hx hb hF.2.2.2.2 in_SB t_SB t_SB_ok n_SB hF.2.2.2.1 hK hP hD hS 0 rfl rfl 0 (by decide) (hF.2.2.2.2 _ fl_A_15) (fun _ h9 => h9) rfl (by decide +kernel) rfl rfl (Nat.le_of_ble_eq_true rfl) d_A_init_14 (fun H locs hP hD hS => ?_)
    have hP : va_P (gD g) classes [(b, .inr (3, [.ref q_2, .int 0, .int 0, .int 0])), (q_2, .inl (gB g, 16, .inl (fun _ => 0)))] H := hP
    have hD : va_D A [(b, .inr (3, [.ref q_2, .int 0, .int 0, .int 0])), (q_2, .inl (gB g, 16, .inl (fun _ => 0)))] := hD
    refine lv_aload_n hx hb d_A_init_17 rfl (lv_at hl 0 rfl) ?_
    refine lv_iconst (v := 0) hx hb d_A_init_18 (by decide) ?_
    refine va_put (D := gD g) (ci := 3) (v := .int 0) (ty := .byte) (C := R_SB) (T := F_SB) (N := 4) hx hb hF.2.2.2.2 in_SB t_SB t_SB_ok n_SB hF.2.2.2.1 hK hP hD hS 0 rfl rfl 1 (by decide) (hF.2.2.2.2 _ fl_A_22) (fun _ h9 => h9) rfl (by decide +kernel) (by decide) (by decide) (Nat.le_of_ble_eq_true rfl) d_A_init_19 (fun H locs hP hD hS => ?_)
    have hP : va_P (gD g) classes [(b, .inr (3, [.ref q_2, .int 0, .int 0, .int 0])), (q_2, .inl (gB g, 16, .inl (fun _ => 0)))] H := hP
    have hD : va_D A [(b, .inr (3, [.ref q_2, .int 0, .int 0, .int 0])), (q_2, .inl (gB g, 16, .inl (fun _ => 0)))] := hD
    refine lv_goto (tgt := 38) hx hb d_A_init_22 (by decide) ?_
    exact ret_v hx hb hr hlk hP hD hS ⟨_, rfl⟩ (by first | exact Nat.le_of_ble_eq_true rfl | (dsimp only; omega) | omega) (by first | exact Nat.le_of_ble_eq_true rfl | (dsimp only; omega) | omega) d_A_init_38
set_option maxRecDepth 100000 in
theorem k_SB_init : ck y_SB_init b_SB_init 1 (none) 0 (.instanceMethod y_SB_init) := ⟨tk_of (List.mem_of_getElem? (i := 70) rfl) rfl, tk_of (List.mem_of_getElem? (i := 69) (by decide +kernel)) rfl, tk_of (List.mem_of_getElem? (i := 39) (by decide +kernel)) rfl, by decide +kernel⟩
theorem j_SB_1 : Cond.methodLink R_SB 1 y_A_init ∈ tk := tk_of (List.mem_of_getElem? (i := 71) (by decide +kernel)) rfl
set_option maxHeartbeats 4000000 in
set_option maxRecDepth 100000 in
theorem c_SB_init (g : gT) (l : Launch) (sz : Nat) (b : Nat) : Mg g l y_SB_init b_SB_init 1 (none) 2 45 1 16 [.ref b] [(b, .inr (3, [.null, .int 0, .int 0, .int 0]))] sz (qV g (fun w1 => ∃ v : Nat, w1 = [(b, .inr (3, [.ref v, .int 0, .int 0, .int 0])), (v, .inl (gB g, 16, .inl (fun _ => 0)))])) := by
  refine mg_of (by decide) (Nat.le_of_ble_eq_true rfl) ?_
  intro p e s m below meth c ls A hx hb hF hr hlk hnm hA G hP hD hS hl
  have hK := G.2.1
  have hN := G.1
  have hin : meth.name = "<init>" := hnm
  have hl : lv_has ls 1 [(0, .ref b)] := hl
  refine lv_aload_n hx hb d_SB_init_0 rfl (lv_at hl 0 rfl) ?_
  refine lv_bipush (v := 16) hx hb d_SB_init_1 (by decide) ?_
  refine go_v (wr := []) (run_I hF (c_A_init g l _ b) k_A_init j_SB_1 rfl (cw_down G hP hD hS hA [0] rfl rfl) ⟨Nat.le_of_ble_eq_true rfl, Nat.le_of_ble_eq_true rfl⟩ rfl hl.1 (Nat.le_of_ble_eq_true rfl) d_SB_init_3 ⟨(by first | exact Nat.le_of_ble_eq_true rfl | (dsimp only; omega) | omega), (by first | exact Nat.le_of_ble_eq_true rfl | (dsimp only; omega) | omega)⟩) hP hD hS hA [0] [] rfl rfl rfl (by decide) (fun w1 H locs hp hP hD hS => ?_)
  obtain ⟨v_2, rfl⟩ := hp
  have hP : va_P (gD g) classes [(b, .inr (3, [.ref v_2, .int 0, .int 0, .int 0])), (v_2, .inl (gB g, 16, .inl (fun _ => 0)))] H := hP
  have hD : va_D A [(b, .inr (3, [.ref v_2, .int 0, .int 0, .int 0])), (v_2, .inl (gB g, 16, .inl (fun _ => 0)))] := hD
  exact ret_v hx hb hr hlk hP hD hS ⟨_, rfl⟩ (by first | exact Nat.le_of_ble_eq_true rfl | (dsimp only; omega) | omega) (by first | exact Nat.le_of_ble_eq_true rfl | (dsimp only; omega) | omega) d_SB_init_6
set_option maxRecDepth 100000 in
theorem k_S_init : ck y_S_init b_S_init 1 (none) 0 (.instanceMethod y_S_init) := ⟨tk_of (List.mem_of_getElem? (i := 64) rfl) rfl, tk_of (List.mem_of_getElem? (i := 63) (by decide +kernel)) rfl, tk_of (List.mem_of_getElem? (i := 37) (by decide +kernel)) rfl, by decide +kernel⟩
theorem j_S_3 : Cond.methodLink R_S 3 objectInit ∈ tk := tk_of (List.mem_of_getElem? (i := 65) (by decide +kernel)) rfl
theorem kl_S_9 : Cond.classLink R_S 9 R_SB ∈ tk := tk_of (List.mem_of_getElem? (i := 66) (by decide +kernel)) rfl
theorem ki_SB : Cond.instantiable R_SB 4 ∈ tk := tk_of (List.mem_of_getElem? (i := 67) (by decide +kernel)) rfl
theorem kz_SB : Cond.initialized R_SB ∈ tk := tk_of (List.mem_of_getElem? (i := 39) (by decide +kernel)) rfl
theorem j_S_11 : Cond.methodLink R_S 11 y_SB_init ∈ tk := tk_of (List.mem_of_getElem? (i := 68) (by decide +kernel)) rfl
set_option maxHeartbeats 4000000 in
set_option maxRecDepth 100000 in
theorem c_S_init (g : gT) (l : Launch) (sz : Nat) (s0 : Nat) : Mg g l y_S_init b_S_init 1 (none) 3 65 2 20 [.ref s0] [(s0, .inr (1, [.null]))] sz (qV g (fun w1 => ∃ b v : Nat, w1 = [(s0, .inr (1, [.ref b])), (b, .inr (3, [.ref v, .int 0, .int 0, .int 0])), (v, .inl (gB g, 16, .inl (fun _ => 0)))])) := by
  refine mg_of (by decide) (Nat.le_of_ble_eq_true rfl) ?_
  intro p e s m below meth c ls A hx hb hF hr hlk hnm hA G hP hD hS hl
  have hK := G.2.1
  have hN := G.1
  have hin : meth.name = "<init>" := hnm
  have hl : lv_has ls 1 [(0, .ref s0)] := hl
  refine lv_aload_n hx hb d_S_init_0 rfl (lv_at hl 0 rfl) ?_
  refine W.objInit hx hb hF.2.2.2.1 (hF.2.2.2.2 _ j_S_3) (hF.2.2.2.2 _ oi_inst) (hF.2.2.2.2 _ oi_code) rfl (by rw [hF.2.2.1]; exact hl.1) rfl d_S_init_1 (Nat.le_of_ble_eq_true rfl) (Nat.le_of_ble_eq_true rfl) ?_
  refine W.eq (g2 := F0 m 4 ls []) rfl ?_
  refine lv_aload_n hx hb d_S_init_4 rfl (lv_at hl 0 rfl) ?_
  refine va_new (ci := 3) (fs := [.null, .int 0, .int 0, .int 0]) (C := R_SB) (T := F_SB) (N := 4) hx hb hF.2.2.2.2 in_SB t_SB t_SB_ok hF.2.2.2.1 (hF.2.2.2.2 _ kl_S_9) (hF.2.2.2.2 _ ki_SB) (hF.2.2.2.2 _ kz_SB) hK hP hD hS hA rfl (fun j hj => by rcases (show j = 0 ∨ j = 1 ∨ j = 2 ∨ j = 3 by omega) with rfl | rfl | rfl | rfl <;> rfl) (by first | exact Nat.le_of_ble_eq_true rfl | (dsimp only; omega) | omega) (by first | exact Nat.le_of_ble_eq_true rfl | (dsimp only; omega) | omega) d_S_init_5 (fun q_1 H hP hD hS => ?_)
  have hP : va_P (gD g) classes [(s0, .inr (1, [.null])), (q_1, .inr (3, [.null, .int 0, .int 0, .int 0]))] H := hP
  have hD : va_D A [(s0, .inr (1, [.null])), (q_1, .inr (3, [.null, .int 0, .int 0, .int 0]))] := hD
  refine lv_dup hx hb d_S_init_8 rfl ?_
  refine go_v (wr := [(s0, .inr (1, [.null]))]) (run_I hF (c_SB_init g l _ q_1) k_SB_init j_S_11 rfl (cw_down G hP hD hS hA [1] rfl rfl) ⟨Nat.le_of_ble_eq_true rfl, Nat.le_of_ble_eq_true rfl⟩ rfl hl.1 (Nat.le_of_ble_eq_true rfl) d_S_init_9 ⟨(by first | exact Nat.le_of_ble_eq_true rfl | (dsimp only; omega) | omega), (by first | exact Nat.le_of_ble_eq_true rfl | (dsimp only; omega) | omega)⟩) hP hD hS hA [1] [0] rfl rfl rfl (by decide) (fun w1 H locs hp hP hD hS => ?_)
  obtain ⟨v_3, rfl⟩ := hp
  have hP : va_P (gD g) classes [(s0, .inr (1, [.null])), (q_1, .inr (3, [.ref v_3, .int 0, .int 0, .int 0])), (v_3, .inl (gB g, 16, .inl (fun _ => 0)))] H := hP
  have hD : va_D A [(s0, .inr (1, [.null])), (q_1, .inr (3, [.ref v_3, .int 0, .int 0, .int 0])), (v_3, .inl (gB g, 16, .inl (fun _ => 0)))] := hD
  refine va_putF (D := gD g) (ci := 1) (v := .ref q_1) (ty := .object "java/lang/StringBuilder") (C := R_S) (T := F_S) (N := 1) hx hb hF.2.2.2.2 in_S t_S t_S_ok n_S hF.2.2.2.1 hK hP hD hS 0 rfl rfl 0 (by decide) (hF.2.2.2.2 _ fl_S_12) (fun _ h9 => h9) rfl hin rfl (by decide +kernel) rfl rfl (Nat.le_of_ble_eq_true rfl) d_S_init_12 (fun H locs hP hD hS => ?_)
  have hP : va_P (gD g) classes [(s0, .inr (1, [.ref q_1])), (q_1, .inr (3, [.ref v_3, .int 0, .int 0, .int 0])), (v_3, .inl (gB g, 16, .inl (fun _ => 0)))] H := hP
  have hD : va_D A [(s0, .inr (1, [.ref q_1])), (q_1, .inr (3, [.ref v_3, .int 0, .int 0, .int 0])), (v_3, .inl (gB g, 16, .inl (fun _ => 0)))] := hD
  exact ret_v hx hb hr hlk hP hD hS ⟨_, _, rfl⟩ (by first | exact Nat.le_of_ble_eq_true rfl | (dsimp only; omega) | omega) (by first | exact Nat.le_of_ble_eq_true rfl | (dsimp only; omega) | omega) d_S_init_15
set_option maxRecDepth 100000 in
theorem k_Q_init : ck y_Q_init b_Q_init 1 (none) 0 (.instanceMethod y_Q_init) := ⟨tk_of (List.mem_of_getElem? (i := 107) rfl) rfl, tk_of (List.mem_of_getElem? (i := 106) (by decide +kernel)) rfl, tk_of (List.mem_of_getElem? (i := 42) (by decide +kernel)) rfl, by decide +kernel⟩
theorem j_Q_3 : Cond.methodLink R_Q 3 objectInit ∈ tk := tk_of (List.mem_of_getElem? (i := 108) (by decide +kernel)) rfl
theorem kl_Q_9 : Cond.classLink R_Q 9 R_SB ∈ tk := tk_of (List.mem_of_getElem? (i := 109) (by decide +kernel)) rfl
theorem j_Q_11 : Cond.methodLink R_Q 11 y_SB_init ∈ tk := tk_of (List.mem_of_getElem? (i := 110) (by decide +kernel)) rfl
set_option maxHeartbeats 4000000 in
set_option maxRecDepth 100000 in
theorem c_Q_init (g : gT) (l : Launch) (sz : Nat) (s0 : Nat) : Mg g l y_Q_init b_Q_init 1 (none) 3 65 2 20 [.ref s0] [(s0, .inr (2, [.null]))] sz (qV g (fun w1 => ∃ b v : Nat, w1 = [(s0, .inr (2, [.ref b])), (b, .inr (3, [.ref v, .int 0, .int 0, .int 0])), (v, .inl (gB g, 16, .inl (fun _ => 0)))])) := by
  refine mg_of (by decide) (Nat.le_of_ble_eq_true rfl) ?_
  intro p e s m below meth c ls A hx hb hF hr hlk hnm hA G hP hD hS hl
  have hK := G.2.1
  have hN := G.1
  have hin : meth.name = "<init>" := hnm
  have hl : lv_has ls 1 [(0, .ref s0)] := hl
  refine lv_aload_n hx hb d_Q_init_0 rfl (lv_at hl 0 rfl) ?_
  refine W.objInit hx hb hF.2.2.2.1 (hF.2.2.2.2 _ j_Q_3) (hF.2.2.2.2 _ oi_inst) (hF.2.2.2.2 _ oi_code) rfl (by rw [hF.2.2.1]; exact hl.1) rfl d_Q_init_1 (Nat.le_of_ble_eq_true rfl) (Nat.le_of_ble_eq_true rfl) ?_
  refine W.eq (g2 := F0 m 4 ls []) rfl ?_
  refine lv_aload_n hx hb d_Q_init_4 rfl (lv_at hl 0 rfl) ?_
  refine va_new (ci := 3) (fs := [.null, .int 0, .int 0, .int 0]) (C := R_SB) (T := F_SB) (N := 4) hx hb hF.2.2.2.2 in_SB t_SB t_SB_ok hF.2.2.2.1 (hF.2.2.2.2 _ kl_Q_9) (hF.2.2.2.2 _ ki_SB) (hF.2.2.2.2 _ kz_SB) hK hP hD hS hA rfl (fun j hj => by rcases (show j = 0 ∨ j = 1 ∨ j = 2 ∨ j = 3 by omega) with rfl | rfl | rfl | rfl <;> rfl) (by first | exact Nat.le_of_ble_eq_true rfl | (dsimp only; omega) | omega) (by first | exact Nat.le_of_ble_eq_true rfl | (dsimp only; omega) | omega) d_Q_init_5 (fun q_1 H hP hD hS => ?_)
  have hP : va_P (gD g) classes [(s0, .inr (2, [.null])), (q_1, .inr (3, [.null, .int 0, .int 0, .int 0]))] H := hP
  have hD : va_D A [(s0, .inr (2, [.null])), (q_1, .inr (3, [.null, .int 0, .int 0, .int 0]))] := hD
  refine lv_dup hx hb d_Q_init_8 rfl ?_
  refine go_v (wr := [(s0, .inr (2, [.null]))]) (run_I hF (c_SB_init g l _ q_1) k_SB_init j_Q_11 rfl (cw_down G hP hD hS hA [1] rfl rfl) ⟨Nat.le_of_ble_eq_true rfl, Nat.le_of_ble_eq_true rfl⟩ rfl hl.1 (Nat.le_of_ble_eq_true rfl) d_Q_init_9 ⟨(by first | exact Nat.le_of_ble_eq_true rfl | (dsimp only; omega) | omega), (by first | exact Nat.le_of_ble_eq_true rfl | (dsimp only; omega) | omega)⟩) hP hD hS hA [1] [0] rfl rfl rfl (by decide) (fun w1 H locs hp hP hD hS => ?_)
  obtain ⟨v_3, rfl⟩ := hp
  have hP : va_P (gD g) classes [(s0, .inr (2, [.null])), (q_1, .inr (3, [.ref v_3, .int 0, .int 0, .int 0])), (v_3, .inl (gB g, 16, .inl (fun _ => 0)))] H := hP
  have hD : va_D A [(s0, .inr (2, [.null])), (q_1, .inr (3, [.ref v_3, .int 0, .int 0, .int 0])), (v_3, .inl (gB g, 16, .inl (fun _ => 0)))] := hD
  refine va_putF (D := gD g) (ci := 2) (v := .ref q_1) (ty := .object "java/lang/StringBuilder") (C := R_Q) (T := F_Q) (N := 1) hx hb hF.2.2.2.2 in_Q t_Q t_Q_ok n_Q hF.2.2.2.1 hK hP hD hS 0 rfl rfl 0 (by decide) (hF.2.2.2.2 _ fl_Q_12) (fun _ h9 => h9) rfl hin rfl (by decide +kernel) rfl rfl (Nat.le_of_ble_eq_true rfl) d_Q_init_12 (fun H locs hP hD hS => ?_)
  have hP : va_P (gD g) classes [(s0, .inr (2, [.ref q_1])), (q_1, .inr (3, [.ref v_3, .int 0, .int 0, .int 0])), (v_3, .inl (gB g, 16, .inl (fun _ => 0)))] H := hP
  have hD : va_D A [(s0, .inr (2, [.ref q_1])), (q_1, .inr (3, [.ref v_3, .int 0, .int 0, .int 0])), (v_3, .inl (gB g, 16, .inl (fun _ => 0)))] := hD
  exact ret_v hx hb hr hlk hP hD hS ⟨_, _, rfl⟩ (by first | exact Nat.le_of_ble_eq_true rfl | (dsimp only; omega) | omega) (by first | exact Nat.le_of_ble_eq_true rfl | (dsimp only; omega) | omega) d_Q_init_15
set_option maxRecDepth 100000 in
theorem k_P_init : ck y_P_init b_P_init 2 (none) 0 (.instanceMethod y_P_init) := ⟨tk_of (List.mem_of_getElem? (i := 56) rfl) rfl, tk_of (List.mem_of_getElem? (i := 55) (by decide +kernel)) rfl, tk_of (List.mem_of_getElem? (i := 36) (by decide +kernel)) rfl, by decide +kernel⟩
theorem j_P_1 : Cond.methodLink R_P 1 objectInit ∈ tk := tk_of (List.mem_of_getElem? (i := 57) (by decide +kernel)) rfl
theorem kl_P_13 : Cond.classLink R_P 13 R_S ∈ tk := tk_of (List.mem_of_getElem? (i := 60) (by decide +kernel)) rfl
theorem ki_S : Cond.instantiable R_S 1 ∈ tk := tk_of (List.mem_of_getElem? (i := 61) (by decide +kernel)) rfl
theorem kz_S : Cond.initialized R_S ∈ tk := tk_of (List.mem_of_getElem? (i := 37) (by decide +kernel)) rfl
theorem j_P_15 : Cond.methodLinkNest R_P 15 y_S_init R_P ∈ nw_l := nw_of (List.mem_of_getElem? (i := 62) (by decide +kernel)) rfl
theorem kl_P_20 : Cond.classLink R_P 20 R_Q ∈ tk := tk_of (List.mem_of_getElem? (i := 103) (by decide +kernel)) rfl
theorem ki_Q : Cond.instantiable R_Q 1 ∈ tk := tk_of (List.mem_of_getElem? (i := 104) (by decide +kernel)) rfl
theorem kz_Q : Cond.initialized R_Q ∈ tk := tk_of (List.mem_of_getElem? (i := 42) (by decide +kernel)) rfl
theorem j_P_22 : Cond.methodLinkNest R_P 22 y_Q_init R_P ∈ nw_l := nw_of (List.mem_of_getElem? (i := 105) (by decide +kernel)) rfl
set_option maxHeartbeats 4000000 in
set_option maxRecDepth 100000 in
theorem c_P_init (g : gT) (l : Launch) (sz : Nat) (p0 : Nat) : Mg g l y_P_init b_P_init 2 (none) 4 85 7 50 [.ref p0] [(p0, .inr (0, [.null, .null, .null]))] sz (qV g (fun w1 => ∃ (ha s0 b1 v1 q0 b2 v2 : Nat) (hd : Nat → Int32), w1 = [(p0, .inr (0, [.ref ha, .ref s0, .ref q0])), (ha, .inl (gI g, 8, .inl hd)), (s0, .inr (1, [.ref b1])), (b1, .inr (3, [.ref v1, .int 0, .int 0, .int 0])), (v1, .inl (gB g, 16, .inl (fun _ => 0))), (q0, .inr (2, [.ref b2])), (b2, .inr (3, [.ref v2, .int 0, .int 0, .int 0])), (v2, .inl (gB g, 16, .inl (fun _ => 0)))] ∧ ∀ j : Nat, j < 8 → hd j = -2)) := by
  refine mg_of (by decide) (Nat.le_of_ble_eq_true rfl) ?_
  intro p e s m below meth c ls A hx hb hF hr hlk hnm hA G hP hD hS hl
  have hK := G.2.1
  have hN := G.1
  have hin : meth.name = "<init>" := hnm
  have hl : lv_has ls 2 [(0, .ref p0)] := hl
  refine lv_aload_n hx hb d_P_init_0 rfl (lv_at hl 0 rfl) ?_
  refine W.objInit hx hb hF.2.2.2.1 (hF.2.2.2.2 _ j_P_1) (hF.2.2.2.2 _ oi_inst) (hF.2.2.2.2 _ oi_code) rfl (by rw [hF.2.2.1]; exact hl.1) rfl d_P_init_1 (Nat.le_of_ble_eq_true rfl) (Nat.le_of_ble_eq_true rfl) ?_
  refine W.eq (g2 := F0 m 4 ls []) rfl ?_
  refine lv_aload_n hx hb d_P_init_4 rfl (lv_at hl 0 rfl) ?_
  refine lv_bipush (v := 8) hx hb d_P_init_5 (by decide) ?_
  refine va_newa (atype := .int) (D := gD g) (cl := classes) (tys := gTy g) hx hb (hF.2.2.2.2 _ ac_int) (ty := .int) rfl hK hP hD hS hA (N' := 8) (a0 := (8, .inl (fun _ => 0))) (fun _ => rfl) (by decide) (by decide) (by decide) (by first | omega | decide) (by first | omega | decide) d_P_init_7 (fun q_1 cA H hK2 hP hD hS => ?_)
  obtain rfl := cA_int hK2
  have hP : va_P (gD g) classes [(p0, .inr (0, [.null, .null, .null])), (q_1, .inl (gI g, 8, .inl (fun _ => 0)))] H := hP
  have hD : va_D A [(p0, .inr (0, [.null, .null, .null])), (q_1, .inl (gI g, 8, .inl (fun _ => 0)))] := hD
  refine va_putF (D := gD g) (ci := 0) (v := .ref q_1) (ty := .array .int) (C := R_P) (T := F_P) (N := 3) hx hb hF.2.2.2.2 in_P t_P t_P_ok n_P hF.2.2.2.1 hK hP hD hS 0 rfl rfl 0 (by decide) (hF.2.2.2.2 _ fl_P_9) (fun _ h9 => h9) rfl hin rfl (by decide +kernel) rfl rfl (Nat.le_of_ble_eq_true rfl) d_P_init_9 (fun H locs hP hD hS => ?_)
  have hP : va_P (gD g) classes [(p0, .inr (0, [.ref q_1, .null, .null])), (q_1, .inl (gI g, 8, .inl (fun _ => 0)))] H := hP
  have hD : va_D A [(p0, .inr (0, [.ref q_1, .null, .null])), (q_1, .inl (gI g, 8, .inl (fun _ => 0)))] := hD
  refine lv_aload_n hx hb d_P_init_12 rfl (lv_at hl 0 rfl) ?_
  refine va_new (ci := 1) (fs := [.null]) (C := R_S) (T := F_S) (N := 1) hx hb hF.2.2.2.2 in_S t_S t_S_ok hF.2.2.2.1 (hF.2.2.2.2 _ kl_P_13) (hF.2.2.2.2 _ ki_S) (hF.2.2.2.2 _ kz_S) hK hP hD hS hA rfl (fun j hj => by rcases (show j = 0 by omega) with rfl <;> rfl) (by first | exact Nat.le_of_ble_eq_true rfl | (dsimp only; omega) | omega) (by first | exact Nat.le_of_ble_eq_true rfl | (dsimp only; omega) | omega) d_P_init_13 (fun q_2 H hP hD hS => ?_)
  have hP : va_P (gD g) classes [(p0, .inr (0, [.ref q_1, .null, .null])), (q_1, .inl (gI g, 8, .inl (fun _ => 0))), (q_2, .inr (1, [.null]))] H := hP
  have hD : va_D A [(p0, .inr (0, [.ref q_1, .null, .null])), (q_1, .inl (gI g, 8, .inl (fun _ => 0))), (q_2, .inr (1, [.null]))] := hD
  refine lv_dup hx hb d_P_init_16 rfl ?_
  refine go_v (wr := [(p0, .inr (0, [.ref q_1, .null, .null])), (q_1, .inl (gI g, 8, .inl (fun _ => 0)))]) (run_IN hF G.1 (c_S_init g l _ q_2) k_S_init j_P_15 rfl (cw_down G hP hD hS hA [2] rfl rfl) ⟨Nat.le_of_ble_eq_true rfl, Nat.le_of_ble_eq_true rfl⟩ rfl hl.1 (Nat.le_of_ble_eq_true rfl) d_P_init_17 ⟨(by first | exact Nat.le_of_ble_eq_true rfl | (dsimp only; omega) | omega), (by first | exact Nat.le_of_ble_eq_true rfl | (dsimp only; omega) | omega)⟩) hP hD hS hA [2] [0, 1] rfl rfl rfl (by decide) (fun w1 H locs hp hP hD hS => ?_)
  obtain ⟨b_4, v_4, rfl⟩ := hp
  have hP : va_P (gD g) classes [(p0, .inr (0, [.ref q_1, .null, .null])), (q_1, .inl (gI g, 8, .inl (fun _ => 0))), (q_2, .inr (1, [.ref b_4])), (b_4, .inr (3, [.ref v_4, .int 0, .int 0, .int 0])), (v_4, .inl (gB g, 16, .inl (fun _ => 0)))] H := hP
  have hD : va_D A [(p0, .inr (0, [.ref q_1, .null, .null])), (q_1, .inl (gI g, 8, .inl (fun _ => 0))), (q_2, .inr (1, [.ref b_4])), (b_4, .inr (3, [.ref v_4, .int 0, .int 0, .int 0])), (v_4, .inl (gB g, 16, .inl (fun _ => 0)))] := hD
  refine va_putF (D := gD g) (ci := 0) (v := .ref q_2) (ty := .object "ClassProbe$Script") (C := R_P) (T := F_P) (N := 3) hx hb hF.2.2.2.2 in_P t_P t_P_ok n_P hF.2.2.2.1 hK hP hD hS 0 rfl rfl 1 (by decide) (hF.2.2.2.2 _ fl_P_16) (fun _ h9 => h9) rfl hin rfl (by decide +kernel) rfl rfl (Nat.le_of_ble_eq_true rfl) d_P_init_20 (fun H locs hP hD hS => ?_)
  have hP : va_P (gD g) classes [(p0, .inr (0, [.ref q_1, .ref q_2, .null])), (q_1, .inl (gI g, 8, .inl (fun _ => 0))), (q_2, .inr (1, [.ref b_4])), (b_4, .inr (3, [.ref v_4, .int 0, .int 0, .int 0])), (v_4, .inl (gB g, 16, .inl (fun _ => 0)))] H := hP
  have hD : va_D A [(p0, .inr (0, [.ref q_1, .ref q_2, .null])), (q_1, .inl (gI g, 8, .inl (fun _ => 0))), (q_2, .inr (1, [.ref b_4])), (b_4, .inr (3, [.ref v_4, .int 0, .int 0, .int 0])), (v_4, .inl (gB g, 16, .inl (fun _ => 0)))] := hD
  refine lv_aload_n hx hb d_P_init_23 rfl (lv_at hl 0 rfl) ?_
  refine va_new (ci := 2) (fs := [.null]) (C := R_Q) (T := F_Q) (N := 1) hx hb hF.2.2.2.2 in_Q t_Q t_Q_ok hF.2.2.2.1 (hF.2.2.2.2 _ kl_P_20) (hF.2.2.2.2 _ ki_Q) (hF.2.2.2.2 _ kz_Q) hK hP hD hS hA rfl (fun j hj => by rcases (show j = 0 by omega) with rfl <;> rfl) (by first | exact Nat.le_of_ble_eq_true rfl | (dsimp only; omega) | omega) (by first | exact Nat.le_of_ble_eq_true rfl | (dsimp only; omega) | omega) d_P_init_24 (fun q_5 H hP hD hS => ?_)
  have hP : va_P (gD g) classes [(p0, .inr (0, [.ref q_1, .ref q_2, .null])), (q_1, .inl (gI g, 8, .inl (fun _ => 0))), (q_2, .inr (1, [.ref b_4])), (b_4, .inr (3, [.ref v_4, .int 0, .int 0, .int 0])), (v_4, .inl (gB g, 16, .inl (fun _ => 0))), (q_5, .inr (2, [.null]))] H := hP
  have hD : va_D A [(p0, .inr (0, [.ref q_1, .ref q_2, .null])), (q_1, .inl (gI g, 8, .inl (fun _ => 0))), (q_2, .inr (1, [.ref b_4])), (b_4, .inr (3, [.ref v_4, .int 0, .int 0, .int 0])), (v_4, .inl (gB g, 16, .inl (fun _ => 0))), (q_5, .inr (2, [.null]))] := hD
  refine lv_dup hx hb d_P_init_27 rfl ?_
  refine go_v (wr := [(p0, .inr (0, [.ref q_1, .ref q_2, .null])), (q_1, .inl (gI g, 8, .inl (fun _ => 0))), (q_2, .inr (1, [.ref b_4])), (b_4, .inr (3, [.ref v_4, .int 0, .int 0, .int 0])), (v_4, .inl (gB g, 16, .inl (fun _ => 0)))]) (run_IN hF G.1 (c_Q_init g l _ q_5) k_Q_init j_P_22 rfl (cw_down G hP hD hS hA [5] rfl rfl) ⟨Nat.le_of_ble_eq_true rfl, Nat.le_of_ble_eq_true rfl⟩ rfl hl.1 (Nat.le_of_ble_eq_true rfl) d_P_init_28 ⟨(by first | exact Nat.le_of_ble_eq_true rfl | (dsimp only; omega) | omega), (by first | exact Nat.le_of_ble_eq_true rfl | (dsimp only; omega) | omega)⟩) hP hD hS hA [5] [0, 1, 2, 3, 4] rfl rfl rfl (by decide) (fun w1 H locs hp hP hD hS => ?_)
  obtain ⟨b_7, v_7, rfl⟩ := hp
  have hP : va_P (gD g) classes [(p0, .inr (0, [.ref q_1, .ref q_2, .null])), (q_1, .inl (gI g, 8, .inl (fun _ => 0))), (q_2, .inr (1, [.ref b_4])), (b_4, .inr (3, [.ref v_4, .int 0, .int 0, .int 0])), (v_4, .inl (gB g, 16, .inl (fun _ => 0))), (q_5, .inr (2, [.ref b_7])), (b_7, .inr (3, [.ref v_7, .int 0, .int 0, .int 0])), (v_7, .inl (gB g, 16, .inl (fun _ => 0)))] H := hP
  have hD : va_D A [(p0, .inr (0, [.ref q_1, .ref q_2, .null])), (q_1, .inl (gI g, 8, .inl (fun _ => 0))), (q_2, .inr (1, [.ref b_4])), (b_4, .inr (3, [.ref v_4, .int 0, .int 0, .int 0])), (v_4, .inl (gB g, 16, .inl (fun _ => 0))), (q_5, .inr (2, [.ref b_7])), (b_7, .inr (3, [.ref v_7, .int 0, .int 0, .int 0])), (v_7, .inl (gB g, 16, .inl (fun _ => 0)))] := hD
  refine va_putF (D := gD g) (ci := 0) (v := .ref q_5) (ty := .object "ClassProbe$Query") (C := R_P) (T := F_P) (N := 3) hx hb hF.2.2.2.2 in_P t_P t_P_ok n_P hF.2.2.2.1 hK hP hD hS 0 rfl rfl 2 (by decide) (hF.2.2.2.2 _ fl_P_23) (fun _ h9 => h9) rfl hin rfl (by decide +kernel) rfl rfl (Nat.le_of_ble_eq_true rfl) d_P_init_31 (fun H locs hP hD hS => ?_)
  have hP : va_P (gD g) classes [(p0, .inr (0, [.ref q_1, .ref q_2, .ref q_5])), (q_1, .inl (gI g, 8, .inl (fun _ => 0))), (q_2, .inr (1, [.ref b_4])), (b_4, .inr (3, [.ref v_4, .int 0, .int 0, .int 0])), (v_4, .inl (gB g, 16, .inl (fun _ => 0))), (q_5, .inr (2, [.ref b_7])), (b_7, .inr (3, [.ref v_7, .int 0, .int 0, .int 0])), (v_7, .inl (gB g, 16, .inl (fun _ => 0)))] H := hP
  have hD : va_D A [(p0, .inr (0, [.ref q_1, .ref q_2, .ref q_5])), (q_1, .inl (gI g, 8, .inl (fun _ => 0))), (q_2, .inr (1, [.ref b_4])), (b_4, .inr (3, [.ref v_4, .int 0, .int 0, .int 0])), (v_4, .inl (gB g, 16, .inl (fun _ => 0))), (q_5, .inr (2, [.ref b_7])), (b_7, .inr (3, [.ref v_7, .int 0, .int 0, .int 0])), (v_7, .inl (gB g, 16, .inl (fun _ => 0)))] := hD
  refine lv_iconst (v := 0) hx hb d_P_init_34 (by decide) ?_
  refine lv_istore_n (lv' := [(1, .int 0), (0, .ref p0)]) hx hb d_P_init_35 rfl hl (by decide) rfl (fun ls hl => ?_)
  refine lv_iload_n hx hb d_P_init_36 rfl (lv_at hl 0 rfl) ?_
  refine lv_bipush (v := 8) hx hb d_P_init_37 (by decide) ?_
  refine lv_icmp_ge (tgt := 56) hx hb d_P_init_39 (by decide) (fun c_8 => ?_) (fun c_8 => ?_)
  · exact absurd c_8 (by decide)
  · skip
    refine lv_aload_n hx hb d_P_init_42 rfl (lv_at hl 1 rfl) ?_
    refine va_get (D := gD g) (ci := 0) (v := .ref q_1) (C := R_P) (T := F_P) (N := 3) hx hb hF.2.2.2.2 in_P hF.2.2.2.1 hK hP 0 rfl rfl 0 (by decide) (hF.2.2.2.2 _ fl_P_9) (fun _ h9 => h9) rfl d_P_init_43 ?_
    refine lv_iload_n hx hb d_P_init_46 rfl (lv_at hl 0 rfl) ?_
    refine lv_bipush (v := (-2)) hx hb d_P_init_47 (by decide) ?_
    refine va_iast hx hb hK hP hD hS 1 0 rfl rfl (vp_in_nI (n := 0) (N := 8) (by decide) (by decide)) d_P_init_49 (fun H locs hP hD hS => ?_)
    have hP : va_P (gD g) classes [(p0, .inr (0, [.ref q_1, .ref q_2, .ref q_5])), (q_1, .inl (gI g, 8, .inl (upd (fun _ => 0) (0 : Int32).toNatClampNeg (-2)))), (q_2, .inr (1, [.ref b_4])), (b_4, .inr (3, [.ref v_4, .int 0, .int 0, .int 0])), (v_4, .inl (gB g, 16, .inl (fun _ => 0))), (q_5, .inr (2, [.ref b_7])), (b_7, .inr (3, [.ref v_7, .int 0, .int 0, .int 0])), (v_7, .inl (gB g, 16, .inl (fun _ => 0)))] H := hP
    have hD : va_D A [(p0, .inr (0, [.ref q_1, .ref q_2, .ref q_5])), (q_1, .inl (gI g, 8, .inl (upd (fun _ => 0) (0 : Int32).toNatClampNeg (-2)))), (q_2, .inr (1, [.ref b_4])), (b_4, .inr (3, [.ref v_4, .int 0, .int 0, .int 0])), (v_4, .inl (gB g, 16, .inl (fun _ => 0))), (q_5, .inr (2, [.ref b_7])), (b_7, .inr (3, [.ref v_7, .int 0, .int 0, .int 0])), (v_7, .inl (gB g, 16, .inl (fun _ => 0)))] := hD
    refine lv_iinc (v := 1) (lv' := [(1, .int 1), (0, .ref p0)]) hx hb d_P_init_50 hl (k := 0) rfl (by first | rfl | decide) (by decide) rfl (fun ls hl => ?_)
    refine lv_goto (tgt := 36) hx hb d_P_init_53 (by decide) ?_
    refine lv_iload_n hx hb d_P_init_36 rfl (lv_at hl 0 rfl) ?_
    refine lv_bipush (v := 8) hx hb d_P_init_37 (by decide) ?_
    refine lv_icmp_ge (tgt := 56) hx hb d_P_init_39 (by decide) (fun c_9 => ?_) (fun c_9 => ?_)
    · exact absurd c_9 (by decide)
    · skip
      refine lv_aload_n hx hb d_P_init_42 rfl (lv_at hl 1 rfl) ?_
      refine va_get (D := gD g) (ci := 0) (v := .ref q_1) (C := R_P) (T := F_P) (N := 3) hx hb hF.2.2.2.2 in_P hF.2.2.2.1 hK hP 0 rfl rfl 0 (by decide) (hF.2.2.2.2 _ fl_P_9) (fun _ h9 => h9) rfl d_P_init_43 ?_
      refine lv_iload_n hx hb d_P_init_46 rfl (lv_at hl 0 rfl) ?_
      refine lv_bipush (v := (-2)) hx hb d_P_init_47 (by decide) ?_
      refine va_iast hx hb hK hP hD hS 1 0 rfl rfl (vp_in_nI (n := 1) (N := 8) (by decide) (by decide)) d_P_init_49 (fun H locs hP hD hS => ?_)
      have hP : va_P (gD g) classes [(p0, .inr (0, [.ref q_1, .ref q_2, .ref q_5])), (q_1, .inl (gI g, 8, .inl (upd (upd (fun _ => 0) (0 : Int32).toNatClampNeg (-2)) (1 : Int32).toNatClampNeg (-2)))), (q_2, .inr (1, [.ref b_4])), (b_4, .inr (3, [.ref v_4, .int 0, .int 0, .int 0])), (v_4, .inl (gB g, 16, .inl (fun _ => 0))), (q_5, .inr (2, [.ref b_7])), (b_7, .inr (3, [.ref v_7, .int 0, .int 0, .int 0])), (v_7, .inl (gB g, 16, .inl (fun _ => 0)))] H := hP
      have hD : va_D A [(p0, .inr (0, [.ref q_1, .ref q_2, .ref q_5])), (q_1, .inl (gI g, 8, .inl (upd (upd (fun _ => 0) (0 : Int32).toNatClampNeg (-2)) (1 : Int32).toNatClampNeg (-2)))), (q_2, .inr (1, [.ref b_4])), (b_4, .inr (3, [.ref v_4, .int 0, .int 0, .int 0])), (v_4, .inl (gB g, 16, .inl (fun _ => 0))), (q_5, .inr (2, [.ref b_7])), (b_7, .inr (3, [.ref v_7, .int 0, .int 0, .int 0])), (v_7, .inl (gB g, 16, .inl (fun _ => 0)))] := hD
      refine lv_iinc (v := 2) (lv' := [(1, .int 2), (0, .ref p0)]) hx hb d_P_init_50 hl (k := 0) rfl (by first | rfl | decide) (by decide) rfl (fun ls hl => ?_)
      refine lv_goto (tgt := 36) hx hb d_P_init_53 (by decide) ?_
      refine lv_iload_n hx hb d_P_init_36 rfl (lv_at hl 0 rfl) ?_
      refine lv_bipush (v := 8) hx hb d_P_init_37 (by decide) ?_
      refine lv_icmp_ge (tgt := 56) hx hb d_P_init_39 (by decide) (fun c_10 => ?_) (fun c_10 => ?_)
      · exact absurd c_10 (by decide)
      · skip
        refine lv_aload_n hx hb d_P_init_42 rfl (lv_at hl 1 rfl) ?_
        refine va_get (D := gD g) (ci := 0) (v := .ref q_1) (C := R_P) (T := F_P) (N := 3) hx hb hF.2.2.2.2 in_P hF.2.2.2.1 hK hP 0 rfl rfl 0 (by decide) (hF.2.2.2.2 _ fl_P_9) (fun _ h9 => h9) rfl d_P_init_43 ?_
        refine lv_iload_n hx hb d_P_init_46 rfl (lv_at hl 0 rfl) ?_
        refine lv_bipush (v := (-2)) hx hb d_P_init_47 (by decide) ?_
        refine va_iast hx hb hK hP hD hS 1 0 rfl rfl (vp_in_nI (n := 2) (N := 8) (by decide) (by decide)) d_P_init_49 (fun H locs hP hD hS => ?_)
        have hP : va_P (gD g) classes [(p0, .inr (0, [.ref q_1, .ref q_2, .ref q_5])), (q_1, .inl (gI g, 8, .inl (upd (upd (upd (fun _ => 0) (0 : Int32).toNatClampNeg (-2)) (1 : Int32).toNatClampNeg (-2)) (2 : Int32).toNatClampNeg (-2)))), (q_2, .inr (1, [.ref b_4])), (b_4, .inr (3, [.ref v_4, .int 0, .int 0, .int 0])), (v_4, .inl (gB g, 16, .inl (fun _ => 0))), (q_5, .inr (2, [.ref b_7])), (b_7, .inr (3, [.ref v_7, .int 0, .int 0, .int 0])), (v_7, .inl (gB g, 16, .inl (fun _ => 0)))] H := hP
        have hD : va_D A [(p0, .inr (0, [.ref q_1, .ref q_2, .ref q_5])), (q_1, .inl (gI g, 8, .inl (upd (upd (upd (fun _ => 0) (0 : Int32).toNatClampNeg (-2)) (1 : Int32).toNatClampNeg (-2)) (2 : Int32).toNatClampNeg (-2)))), (q_2, .inr (1, [.ref b_4])), (b_4, .inr (3, [.ref v_4, .int 0, .int 0, .int 0])), (v_4, .inl (gB g, 16, .inl (fun _ => 0))), (q_5, .inr (2, [.ref b_7])), (b_7, .inr (3, [.ref v_7, .int 0, .int 0, .int 0])), (v_7, .inl (gB g, 16, .inl (fun _ => 0)))] := hD
        refine lv_iinc (v := 3) (lv' := [(1, .int 3), (0, .ref p0)]) hx hb d_P_init_50 hl (k := 0) rfl (by first | rfl | decide) (by decide) rfl (fun ls hl => ?_)
        refine lv_goto (tgt := 36) hx hb d_P_init_53 (by decide) ?_
        refine lv_iload_n hx hb d_P_init_36 rfl (lv_at hl 0 rfl) ?_
        refine lv_bipush (v := 8) hx hb d_P_init_37 (by decide) ?_
        refine lv_icmp_ge (tgt := 56) hx hb d_P_init_39 (by decide) (fun c_11 => ?_) (fun c_11 => ?_)
        · exact absurd c_11 (by decide)
        · skip
          refine lv_aload_n hx hb d_P_init_42 rfl (lv_at hl 1 rfl) ?_
          refine va_get (D := gD g) (ci := 0) (v := .ref q_1) (C := R_P) (T := F_P) (N := 3) hx hb hF.2.2.2.2 in_P hF.2.2.2.1 hK hP 0 rfl rfl 0 (by decide) (hF.2.2.2.2 _ fl_P_9) (fun _ h9 => h9) rfl d_P_init_43 ?_
          refine lv_iload_n hx hb d_P_init_46 rfl (lv_at hl 0 rfl) ?_
          refine lv_bipush (v := (-2)) hx hb d_P_init_47 (by decide) ?_
          refine va_iast hx hb hK hP hD hS 1 0 rfl rfl (vp_in_nI (n := 3) (N := 8) (by decide) (by decide)) d_P_init_49 (fun H locs hP hD hS => ?_)
          have hP : va_P (gD g) classes [(p0, .inr (0, [.ref q_1, .ref q_2, .ref q_5])), (q_1, .inl (gI g, 8, .inl (upd (upd (upd (upd (fun _ => 0) (0 : Int32).toNatClampNeg (-2)) (1 : Int32).toNatClampNeg (-2)) (2 : Int32).toNatClampNeg (-2)) (3 : Int32).toNatClampNeg (-2)))), (q_2, .inr (1, [.ref b_4])), (b_4, .inr (3, [.ref v_4, .int 0, .int 0, .int 0])), (v_4, .inl (gB g, 16, .inl (fun _ => 0))), (q_5, .inr (2, [.ref b_7])), (b_7, .inr (3, [.ref v_7, .int 0, .int 0, .int 0])), (v_7, .inl (gB g, 16, .inl (fun _ => 0)))] H := hP
          have hD : va_D A [(p0, .inr (0, [.ref q_1, .ref q_2, .ref q_5])), (q_1, .inl (gI g, 8, .inl (upd (upd (upd (upd (fun _ => 0) (0 : Int32).toNatClampNeg (-2)) (1 : Int32).toNatClampNeg (-2)) (2 : Int32).toNatClampNeg (-2)) (3 : Int32).toNatClampNeg (-2)))), (q_2, .inr (1, [.ref b_4])), (b_4, .inr (3, [.ref v_4, .int 0, .int 0, .int 0])), (v_4, .inl (gB g, 16, .inl (fun _ => 0))), (q_5, .inr (2, [.ref b_7])), (b_7, .inr (3, [.ref v_7, .int 0, .int 0, .int 0])), (v_7, .inl (gB g, 16, .inl (fun _ => 0)))] := hD
          refine lv_iinc (v := 4) (lv' := [(1, .int 4), (0, .ref p0)]) hx hb d_P_init_50 hl (k := 0) rfl (by first | rfl | decide) (by decide) rfl (fun ls hl => ?_)
          refine lv_goto (tgt := 36) hx hb d_P_init_53 (by decide) ?_
          refine lv_iload_n hx hb d_P_init_36 rfl (lv_at hl 0 rfl) ?_
          refine lv_bipush (v := 8) hx hb d_P_init_37 (by decide) ?_
          refine lv_icmp_ge (tgt := 56) hx hb d_P_init_39 (by decide) (fun c_12 => ?_) (fun c_12 => ?_)
          · exact absurd c_12 (by decide)
          · skip
            refine lv_aload_n hx hb d_P_init_42 rfl (lv_at hl 1 rfl) ?_
            refine va_get (D := gD g) (ci := 0) (v := .ref q_1) (C := R_P) (T := F_P) (N := 3) hx hb hF.2.2.2.2 in_P hF.2.2.2.1 hK hP 0 rfl rfl 0 (by decide) (hF.2.2.2.2 _ fl_P_9) (fun _ h9 => h9) rfl d_P_init_43 ?_
            refine lv_iload_n hx hb d_P_init_46 rfl (lv_at hl 0 rfl) ?_
            refine lv_bipush (v := (-2)) hx hb d_P_init_47 (by decide) ?_
            refine va_iast hx hb hK hP hD hS 1 0 rfl rfl (vp_in_nI (n := 4) (N := 8) (by decide) (by decide)) d_P_init_49 (fun H locs hP hD hS => ?_)
            have hP : va_P (gD g) classes [(p0, .inr (0, [.ref q_1, .ref q_2, .ref q_5])), (q_1, .inl (gI g, 8, .inl (upd (upd (upd (upd (upd (fun _ => 0) (0 : Int32).toNatClampNeg (-2)) (1 : Int32).toNatClampNeg (-2)) (2 : Int32).toNatClampNeg (-2)) (3 : Int32).toNatClampNeg (-2)) (4 : Int32).toNatClampNeg (-2)))), (q_2, .inr (1, [.ref b_4])), (b_4, .inr (3, [.ref v_4, .int 0, .int 0, .int 0])), (v_4, .inl (gB g, 16, .inl (fun _ => 0))), (q_5, .inr (2, [.ref b_7])), (b_7, .inr (3, [.ref v_7, .int 0, .int 0, .int 0])), (v_7, .inl (gB g, 16, .inl (fun _ => 0)))] H := hP
            have hD : va_D A [(p0, .inr (0, [.ref q_1, .ref q_2, .ref q_5])), (q_1, .inl (gI g, 8, .inl (upd (upd (upd (upd (upd (fun _ => 0) (0 : Int32).toNatClampNeg (-2)) (1 : Int32).toNatClampNeg (-2)) (2 : Int32).toNatClampNeg (-2)) (3 : Int32).toNatClampNeg (-2)) (4 : Int32).toNatClampNeg (-2)))), (q_2, .inr (1, [.ref b_4])), (b_4, .inr (3, [.ref v_4, .int 0, .int 0, .int 0])), (v_4, .inl (gB g, 16, .inl (fun _ => 0))), (q_5, .inr (2, [.ref b_7])), (b_7, .inr (3, [.ref v_7, .int 0, .int 0, .int 0])), (v_7, .inl (gB g, 16, .inl (fun _ => 0)))] := hD
            refine lv_iinc (v := 5) (lv' := [(1, .int 5), (0, .ref p0)]) hx hb d_P_init_50 hl (k := 0) rfl (by first | rfl | decide) (by decide) rfl (fun ls hl => ?_)
            refine lv_goto (tgt := 36) hx hb d_P_init_53 (by decide) ?_
            refine lv_iload_n hx hb d_P_init_36 rfl (lv_at hl 0 rfl) ?_
            refine lv_bipush (v := 8) hx hb d_P_init_37 (by decide) ?_
            refine lv_icmp_ge (tgt := 56) hx hb d_P_init_39 (by decide) (fun c_13 => ?_) (fun c_13 => ?_)
            · exact absurd c_13 (by decide)
            · skip
              refine lv_aload_n hx hb d_P_init_42 rfl (lv_at hl 1 rfl) ?_
              refine va_get (D := gD g) (ci := 0) (v := .ref q_1) (C := R_P) (T := F_P) (N := 3) hx hb hF.2.2.2.2 in_P hF.2.2.2.1 hK hP 0 rfl rfl 0 (by decide) (hF.2.2.2.2 _ fl_P_9) (fun _ h9 => h9) rfl d_P_init_43 ?_
              refine lv_iload_n hx hb d_P_init_46 rfl (lv_at hl 0 rfl) ?_
              refine lv_bipush (v := (-2)) hx hb d_P_init_47 (by decide) ?_
              refine va_iast hx hb hK hP hD hS 1 0 rfl rfl (vp_in_nI (n := 5) (N := 8) (by decide) (by decide)) d_P_init_49 (fun H locs hP hD hS => ?_)
              have hP : va_P (gD g) classes [(p0, .inr (0, [.ref q_1, .ref q_2, .ref q_5])), (q_1, .inl (gI g, 8, .inl (upd (upd (upd (upd (upd (upd (fun _ => 0) (0 : Int32).toNatClampNeg (-2)) (1 : Int32).toNatClampNeg (-2)) (2 : Int32).toNatClampNeg (-2)) (3 : Int32).toNatClampNeg (-2)) (4 : Int32).toNatClampNeg (-2)) (5 : Int32).toNatClampNeg (-2)))), (q_2, .inr (1, [.ref b_4])), (b_4, .inr (3, [.ref v_4, .int 0, .int 0, .int 0])), (v_4, .inl (gB g, 16, .inl (fun _ => 0))), (q_5, .inr (2, [.ref b_7])), (b_7, .inr (3, [.ref v_7, .int 0, .int 0, .int 0])), (v_7, .inl (gB g, 16, .inl (fun _ => 0)))] H := hP
              have hD : va_D A [(p0, .inr (0, [.ref q_1, .ref q_2, .ref q_5])), (q_1, .inl (gI g, 8, .inl (upd (upd (upd (upd (upd (upd (fun _ => 0) (0 : Int32).toNatClampNeg (-2)) (1 : Int32).toNatClampNeg (-2)) (2 : Int32).toNatClampNeg (-2)) (3 : Int32).toNatClampNeg (-2)) (4 : Int32).toNatClampNeg (-2)) (5 : Int32).toNatClampNeg (-2)))), (q_2, .inr (1, [.ref b_4])), (b_4, .inr (3, [.ref v_4, .int 0, .int 0, .int 0])), (v_4, .inl (gB g, 16, .inl (fun _ => 0))), (q_5, .inr (2, [.ref b_7])), (b_7, .inr (3, [.ref v_7, .int 0, .int 0, .int 0])), (v_7, .inl (gB g, 16, .inl (fun _ => 0)))] := hD
              refine lv_iinc (v := 6) (lv' := [(1, .int 6), (0, .ref p0)]) hx hb d_P_init_50 hl (k := 0) rfl (by first | rfl | decide) (by decide) rfl (fun ls hl => ?_)
              refine lv_goto (tgt := 36) hx hb d_P_init_53 (by decide) ?_
              refine lv_iload_n hx hb d_P_init_36 rfl (lv_at hl 0 rfl) ?_
              refine lv_bipush (v := 8) hx hb d_P_init_37 (by decide) ?_
              refine lv_icmp_ge (tgt := 56) hx hb d_P_init_39 (by decide) (fun c_14 => ?_) (fun c_14 => ?_)
              · exact absurd c_14 (by decide)
              · skip
                refine lv_aload_n hx hb d_P_init_42 rfl (lv_at hl 1 rfl) ?_
                refine va_get (D := gD g) (ci := 0) (v := .ref q_1) (C := R_P) (T := F_P) (N := 3) hx hb hF.2.2.2.2 in_P hF.2.2.2.1 hK hP 0 rfl rfl 0 (by decide) (hF.2.2.2.2 _ fl_P_9) (fun _ h9 => h9) rfl d_P_init_43 ?_
                refine lv_iload_n hx hb d_P_init_46 rfl (lv_at hl 0 rfl) ?_
                refine lv_bipush (v := (-2)) hx hb d_P_init_47 (by decide) ?_
                refine va_iast hx hb hK hP hD hS 1 0 rfl rfl (vp_in_nI (n := 6) (N := 8) (by decide) (by decide)) d_P_init_49 (fun H locs hP hD hS => ?_)
                have hP : va_P (gD g) classes [(p0, .inr (0, [.ref q_1, .ref q_2, .ref q_5])), (q_1, .inl (gI g, 8, .inl (upd (upd (upd (upd (upd (upd (upd (fun _ => 0) (0 : Int32).toNatClampNeg (-2)) (1 : Int32).toNatClampNeg (-2)) (2 : Int32).toNatClampNeg (-2)) (3 : Int32).toNatClampNeg (-2)) (4 : Int32).toNatClampNeg (-2)) (5 : Int32).toNatClampNeg (-2)) (6 : Int32).toNatClampNeg (-2)))), (q_2, .inr (1, [.ref b_4])), (b_4, .inr (3, [.ref v_4, .int 0, .int 0, .int 0])), (v_4, .inl (gB g, 16, .inl (fun _ => 0))), (q_5, .inr (2, [.ref b_7])), (b_7, .inr (3, [.ref v_7, .int 0, .int 0, .int 0])), (v_7, .inl (gB g, 16, .inl (fun _ => 0)))] H := hP
                have hD : va_D A [(p0, .inr (0, [.ref q_1, .ref q_2, .ref q_5])), (q_1, .inl (gI g, 8, .inl (upd (upd (upd (upd (upd (upd (upd (fun _ => 0) (0 : Int32).toNatClampNeg (-2)) (1 : Int32).toNatClampNeg (-2)) (2 : Int32).toNatClampNeg (-2)) (3 : Int32).toNatClampNeg (-2)) (4 : Int32).toNatClampNeg (-2)) (5 : Int32).toNatClampNeg (-2)) (6 : Int32).toNatClampNeg (-2)))), (q_2, .inr (1, [.ref b_4])), (b_4, .inr (3, [.ref v_4, .int 0, .int 0, .int 0])), (v_4, .inl (gB g, 16, .inl (fun _ => 0))), (q_5, .inr (2, [.ref b_7])), (b_7, .inr (3, [.ref v_7, .int 0, .int 0, .int 0])), (v_7, .inl (gB g, 16, .inl (fun _ => 0)))] := hD
                refine lv_iinc (v := 7) (lv' := [(1, .int 7), (0, .ref p0)]) hx hb d_P_init_50 hl (k := 0) rfl (by first | rfl | decide) (by decide) rfl (fun ls hl => ?_)
                refine lv_goto (tgt := 36) hx hb d_P_init_53 (by decide) ?_
                refine lv_iload_n hx hb d_P_init_36 rfl (lv_at hl 0 rfl) ?_
                refine lv_bipush (v := 8) hx hb d_P_init_37 (by decide) ?_
                refine lv_icmp_ge (tgt := 56) hx hb d_P_init_39 (by decide) (fun c_15 => ?_) (fun c_15 => ?_)
                · exact absurd c_15 (by decide)
                · skip
                  refine lv_aload_n hx hb d_P_init_42 rfl (lv_at hl 1 rfl) ?_
                  refine va_get (D := gD g) (ci := 0) (v := .ref q_1) (C := R_P) (T := F_P) (N := 3) hx hb hF.2.2.2.2 in_P hF.2.2.2.1 hK hP 0 rfl rfl 0 (by decide) (hF.2.2.2.2 _ fl_P_9) (fun _ h9 => h9) rfl d_P_init_43 ?_
                  refine lv_iload_n hx hb d_P_init_46 rfl (lv_at hl 0 rfl) ?_
                  refine lv_bipush (v := (-2)) hx hb d_P_init_47 (by decide) ?_
                  refine va_iast hx hb hK hP hD hS 1 0 rfl rfl (vp_in_nI (n := 7) (N := 8) (by decide) (by decide)) d_P_init_49 (fun H locs hP hD hS => ?_)
                  have hP : va_P (gD g) classes [(p0, .inr (0, [.ref q_1, .ref q_2, .ref q_5])), (q_1, .inl (gI g, 8, .inl (upd (upd (upd (upd (upd (upd (upd (upd (fun _ => 0) (0 : Int32).toNatClampNeg (-2)) (1 : Int32).toNatClampNeg (-2)) (2 : Int32).toNatClampNeg (-2)) (3 : Int32).toNatClampNeg (-2)) (4 : Int32).toNatClampNeg (-2)) (5 : Int32).toNatClampNeg (-2)) (6 : Int32).toNatClampNeg (-2)) (7 : Int32).toNatClampNeg (-2)))), (q_2, .inr (1, [.ref b_4])), (b_4, .inr (3, [.ref v_4, .int 0, .int 0, .int 0])), (v_4, .inl (gB g, 16, .inl (fun _ => 0))), (q_5, .inr (2, [.ref b_7])), (b_7, .inr (3, [.ref v_7, .int 0, .int 0, .int 0])), (v_7, .inl (gB g, 16, .inl (fun _ => 0)))] H := hP
                  have hD : va_D A [(p0, .inr (0, [.ref q_1, .ref q_2, .ref q_5])), (q_1, .inl (gI g, 8, .inl (upd (upd (upd (upd (upd (upd (upd (upd (fun _ => 0) (0 : Int32).toNatClampNeg (-2)) (1 : Int32).toNatClampNeg (-2)) (2 : Int32).toNatClampNeg (-2)) (3 : Int32).toNatClampNeg (-2)) (4 : Int32).toNatClampNeg (-2)) (5 : Int32).toNatClampNeg (-2)) (6 : Int32).toNatClampNeg (-2)) (7 : Int32).toNatClampNeg (-2)))), (q_2, .inr (1, [.ref b_4])), (b_4, .inr (3, [.ref v_4, .int 0, .int 0, .int 0])), (v_4, .inl (gB g, 16, .inl (fun _ => 0))), (q_5, .inr (2, [.ref b_7])), (b_7, .inr (3, [.ref v_7, .int 0, .int 0, .int 0])), (v_7, .inl (gB g, 16, .inl (fun _ => 0)))] := hD
                  refine lv_iinc (v := 8) (lv' := [(1, .int 8), (0, .ref p0)]) hx hb d_P_init_50 hl (k := 0) rfl (by first | rfl | decide) (by decide) rfl (fun ls hl => ?_)
                  refine lv_goto (tgt := 36) hx hb d_P_init_53 (by decide) ?_
                  refine lv_iload_n hx hb d_P_init_36 rfl (lv_at hl 0 rfl) ?_
                  refine lv_bipush (v := 8) hx hb d_P_init_37 (by decide) ?_
                  refine lv_icmp_ge (tgt := 56) hx hb d_P_init_39 (by decide) (fun c_16 => ?_) (fun c_16 => ?_)
                  · skip
                    exact ret_v hx hb hr hlk (hP.sub (ws' := [(p0, .inr (0, [.ref q_1, .ref q_2, .ref q_5])), (q_1, .inl (gI g, 8, .inl (upd (upd (upd (upd (upd (upd (upd (upd (fun _ => 0) (0 : Int32).toNatClampNeg (-2)) (1 : Int32).toNatClampNeg (-2)) (2 : Int32).toNatClampNeg (-2)) (3 : Int32).toNatClampNeg (-2)) (4 : Int32).toNatClampNeg (-2)) (5 : Int32).toNatClampNeg (-2)) (6 : Int32).toNatClampNeg (-2)) (7 : Int32).toNatClampNeg (-2)))), (q_2, .inr (1, [.ref b_4])), (b_4, .inr (3, [.ref v_4, .int 0, .int 0, .int 0])), (v_4, .inl (gB g, 16, .inl (fun _ => 0))), (q_5, .inr (2, [.ref b_7])), (b_7, .inr (3, [.ref v_7, .int 0, .int 0, .int 0])), (v_7, .inl (gB g, 16, .inl (fun _ => 0)))]) [0, 1, 2, 3, 4, 5, 6, 7] rfl) (hD.sub (ws' := [(p0, .inr (0, [.ref q_1, .ref q_2, .ref q_5])), (q_1, .inl (gI g, 8, .inl (upd (upd (upd (upd (upd (upd (upd (upd (fun _ => 0) (0 : Int32).toNatClampNeg (-2)) (1 : Int32).toNatClampNeg (-2)) (2 : Int32).toNatClampNeg (-2)) (3 : Int32).toNatClampNeg (-2)) (4 : Int32).toNatClampNeg (-2)) (5 : Int32).toNatClampNeg (-2)) (6 : Int32).toNatClampNeg (-2)) (7 : Int32).toNatClampNeg (-2)))), (q_2, .inr (1, [.ref b_4])), (b_4, .inr (3, [.ref v_4, .int 0, .int 0, .int 0])), (v_4, .inl (gB g, 16, .inl (fun _ => 0))), (q_5, .inr (2, [.ref b_7])), (b_7, .inr (3, [.ref v_7, .int 0, .int 0, .int 0])), (v_7, .inl (gB g, 16, .inl (fun _ => 0)))]) [0, 1, 2, 3, 4, 5, 6, 7] rfl rfl) hS ⟨_, _, _, _, _, _, _, _, rfl, by decide +kernel⟩ (by first | exact Nat.le_of_ble_eq_true rfl | (dsimp only; omega) | omega) (by first | exact Nat.le_of_ble_eq_true rfl | (dsimp only; omega) | omega) d_P_init_56
                  · exact absurd c_16 (by decide)
set_option maxRecDepth 100000 in
theorem k_M_init : ck y_M_init b_M_init 2 (none) 0 (.instanceMethod y_M_init) := ⟨tk_of (List.mem_of_getElem? (i := 668) rfl) rfl, tk_of (List.mem_of_getElem? (i := 667) (by decide +kernel)) rfl, tk_of (List.mem_of_getElem? (i := 43) (by decide +kernel)) rfl, by decide +kernel⟩
theorem j_M_1 : Cond.methodLink R_M 1 objectInit ∈ tk := tk_of (List.mem_of_getElem? (i := 669) (by decide +kernel)) rfl
set_option maxHeartbeats 4000000 in
set_option maxRecDepth 100000 in
theorem c_M_init (g : gT) (l : Launch) (sz : Nat) (h0 : Nat) : Mg g l y_M_init b_M_init 2 (none) 1 24 4 256 [.ref h0] [(h0, .inr (4, [.null, .int 0, .null, .int 0, .null, .null, .int 0]))] sz (qV g (fun w1 => ∃ (a1 a2 a3 a4 : Nat) (hd : Nat → Int32), w1 = [(h0, .inr (4, [.ref a1, .int 0, .ref a2, .int 0, .ref a3, .ref a4, .int 100])), (a1, .inl (gI g, 200, .inl (fun _ => 0))), (a2, .inl (gI g, 40, .inl (fun _ => 0))), (a3, .inl (gI g, 8, .inl hd)), (a4, .inl (gI g, 8, .inl (fun _ => 0)))] ∧ (∀ j : Nat, j < 8 → hd j = -1) ∧ ∀ j : Nat, hd j < 120)) := by
  refine mg_of (by decide) (Nat.le_of_ble_eq_true rfl) ?_
  intro p e s m below meth c ls A hx hb hF hr hlk hnm hA G hP hD hS hl
  have hK := G.2.1
  have hN := G.1
  have hin : meth.name = "<init>" := hnm
  have hl : lv_has ls 2 [(0, .ref h0)] := hl
  refine lv_aload_n hx hb d_M_init_0 rfl (lv_at hl 0 rfl) ?_
  refine W.objInit hx hb hF.2.2.2.1 (hF.2.2.2.2 _ j_M_1) (hF.2.2.2.2 _ oi_inst) (hF.2.2.2.2 _ oi_code) rfl (by rw [hF.2.2.1]; exact hl.1) rfl d_M_init_1 (Nat.le_of_ble_eq_true rfl) (Nat.le_of_ble_eq_true rfl) ?_
  refine W.eq (g2 := F0 m 4 ls []) rfl ?_
  refine lv_aload_n hx hb d_M_init_4 rfl (lv_at hl 0 rfl) ?_
  refine lv_sipush (v := 200) hx hb d_M_init_5 (by decide) ?_
  refine va_newa (atype := .int) (D := gD g) (cl := classes) (tys := gTy g) hx hb (hF.2.2.2.2 _ ac_int) (ty := .int) rfl hK hP hD hS hA (N' := 200) (a0 := (200, .inl (fun _ => 0))) (fun _ => rfl) (by decide) (by decide) (by decide) (by first | omega | decide) (by first | omega | decide) d_M_init_8 (fun q_1 cA H hK2 hP hD hS => ?_)
  obtain rfl := cA_int hK2
  have hP : va_P (gD g) classes [(h0, .inr (4, [.null, .int 0, .null, .int 0, .null, .null, .int 0])), (q_1, .inl (gI g, 200, .inl (fun _ => 0)))] H := hP
  have hD : va_D A [(h0, .inr (4, [.null, .int 0, .null, .int 0, .null, .null, .int 0])), (q_1, .inl (gI g, 200, .inl (fun _ => 0)))] := hD
  refine va_putF (D := gD g) (ci := 4) (v := .ref q_1) (ty := .array .int) (C := R_M) (T := F_M) (N := 7) hx hb hF.2.2.2.2 in_M t_M t_M_ok n_M hF.2.2.2.1 hK hP hD hS 0 rfl rfl 0 (by decide) (hF.2.2.2.2 _ fl_M_7) (fun _ h9 => h9) rfl hin rfl (by decide +kernel) rfl rfl (Nat.le_of_ble_eq_true rfl) d_M_init_10 (fun H locs hP hD hS => ?_)
  have hP : va_P (gD g) classes [(h0, .inr (4, [.ref q_1, .int 0, .null, .int 0, .null, .null, .int 0])), (q_1, .inl (gI g, 200, .inl (fun _ => 0)))] H := hP
  have hD : va_D A [(h0, .inr (4, [.ref q_1, .int 0, .null, .int 0, .null, .null, .int 0])), (q_1, .inl (gI g, 200, .inl (fun _ => 0)))] := hD
  refine lv_aload_n hx hb d_M_init_13 rfl (lv_at hl 0 rfl) ?_
  refine lv_bipush (v := 40) hx hb d_M_init_14 (by decide) ?_
  refine va_newa (atype := .int) (D := gD g) (cl := classes) (tys := gTy g) hx hb (hF.2.2.2.2 _ ac_int) (ty := .int) rfl hK hP hD hS hA (N' := 40) (a0 := (40, .inl (fun _ => 0))) (fun _ => rfl) (by decide) (by decide) (by decide) (by first | omega | decide) (by first | omega | decide) d_M_init_16 (fun q_2 cA H hK2 hP hD hS => ?_)
  obtain rfl := cA_int hK2
  have hP : va_P (gD g) classes [(h0, .inr (4, [.ref q_1, .int 0, .null, .int 0, .null, .null, .int 0])), (q_1, .inl (gI g, 200, .inl (fun _ => 0))), (q_2, .inl (gI g, 40, .inl (fun _ => 0)))] H := hP
  have hD : va_D A [(h0, .inr (4, [.ref q_1, .int 0, .null, .int 0, .null, .null, .int 0])), (q_1, .inl (gI g, 200, .inl (fun _ => 0))), (q_2, .inl (gI g, 40, .inl (fun _ => 0)))] := hD
  refine va_putF (D := gD g) (ci := 4) (v := .ref q_2) (ty := .array .int) (C := R_M) (T := F_M) (N := 7) hx hb hF.2.2.2.2 in_M t_M t_M_ok n_M hF.2.2.2.1 hK hP hD hS 0 rfl rfl 2 (by decide) (hF.2.2.2.2 _ fl_M_13) (fun _ h9 => h9) rfl hin rfl (by decide +kernel) rfl rfl (Nat.le_of_ble_eq_true rfl) d_M_init_18 (fun H locs hP hD hS => ?_)
  have hP : va_P (gD g) classes [(h0, .inr (4, [.ref q_1, .int 0, .ref q_2, .int 0, .null, .null, .int 0])), (q_1, .inl (gI g, 200, .inl (fun _ => 0))), (q_2, .inl (gI g, 40, .inl (fun _ => 0)))] H := hP
  have hD : va_D A [(h0, .inr (4, [.ref q_1, .int 0, .ref q_2, .int 0, .null, .null, .int 0])), (q_1, .inl (gI g, 200, .inl (fun _ => 0))), (q_2, .inl (gI g, 40, .inl (fun _ => 0)))] := hD
  refine lv_aload_n hx hb d_M_init_21 rfl (lv_at hl 0 rfl) ?_
  refine lv_bipush (v := 8) hx hb d_M_init_22 (by decide) ?_
  refine va_newa (atype := .int) (D := gD g) (cl := classes) (tys := gTy g) hx hb (hF.2.2.2.2 _ ac_int) (ty := .int) rfl hK hP hD hS hA (N' := 8) (a0 := (8, .inl (fun _ => 0))) (fun _ => rfl) (by decide) (by decide) (by decide) (by first | omega | decide) (by first | omega | decide) d_M_init_24 (fun q_3 cA H hK2 hP hD hS => ?_)
  obtain rfl := cA_int hK2
  have hP : va_P (gD g) classes [(h0, .inr (4, [.ref q_1, .int 0, .ref q_2, .int 0, .null, .null, .int 0])), (q_1, .inl (gI g, 200, .inl (fun _ => 0))), (q_2, .inl (gI g, 40, .inl (fun _ => 0))), (q_3, .inl (gI g, 8, .inl (fun _ => 0)))] H := hP
  have hD : va_D A [(h0, .inr (4, [.ref q_1, .int 0, .ref q_2, .int 0, .null, .null, .int 0])), (q_1, .inl (gI g, 200, .inl (fun _ => 0))), (q_2, .inl (gI g, 40, .inl (fun _ => 0))), (q_3, .inl (gI g, 8, .inl (fun _ => 0)))] := hD
  refine va_putF (D := gD g) (ci := 4) (v := .ref q_3) (ty := .array .int) (C := R_M) (T := F_M) (N := 7) hx hb hF.2.2.2.2 in_M t_M t_M_ok n_M hF.2.2.2.1 hK hP hD hS 0 rfl rfl 4 (by decide) (hF.2.2.2.2 _ fl_M_16) (fun _ h9 => h9) rfl hin rfl (by decide +kernel) rfl rfl (Nat.le_of_ble_eq_true rfl) d_M_init_26 (fun H locs hP hD hS => ?_)
  have hP : va_P (gD g) classes [(h0, .inr (4, [.ref q_1, .int 0, .ref q_2, .int 0, .ref q_3, .null, .int 0])), (q_1, .inl (gI g, 200, .inl (fun _ => 0))), (q_2, .inl (gI g, 40, .inl (fun _ => 0))), (q_3, .inl (gI g, 8, .inl (fun _ => 0)))] H := hP
  have hD : va_D A [(h0, .inr (4, [.ref q_1, .int 0, .ref q_2, .int 0, .ref q_3, .null, .int 0])), (q_1, .inl (gI g, 200, .inl (fun _ => 0))), (q_2, .inl (gI g, 40, .inl (fun _ => 0))), (q_3, .inl (gI g, 8, .inl (fun _ => 0)))] := hD
  refine lv_aload_n hx hb d_M_init_29 rfl (lv_at hl 0 rfl) ?_
  refine lv_bipush (v := 8) hx hb d_M_init_30 (by decide) ?_
  refine va_newa (atype := .int) (D := gD g) (cl := classes) (tys := gTy g) hx hb (hF.2.2.2.2 _ ac_int) (ty := .int) rfl hK hP hD hS hA (N' := 8) (a0 := (8, .inl (fun _ => 0))) (fun _ => rfl) (by decide) (by decide) (by decide) (by first | omega | decide) (by first | omega | decide) d_M_init_32 (fun q_4 cA H hK2 hP hD hS => ?_)
  obtain rfl := cA_int hK2
  have hP : va_P (gD g) classes [(h0, .inr (4, [.ref q_1, .int 0, .ref q_2, .int 0, .ref q_3, .null, .int 0])), (q_1, .inl (gI g, 200, .inl (fun _ => 0))), (q_2, .inl (gI g, 40, .inl (fun _ => 0))), (q_3, .inl (gI g, 8, .inl (fun _ => 0))), (q_4, .inl (gI g, 8, .inl (fun _ => 0)))] H := hP
  have hD : va_D A [(h0, .inr (4, [.ref q_1, .int 0, .ref q_2, .int 0, .ref q_3, .null, .int 0])), (q_1, .inl (gI g, 200, .inl (fun _ => 0))), (q_2, .inl (gI g, 40, .inl (fun _ => 0))), (q_3, .inl (gI g, 8, .inl (fun _ => 0))), (q_4, .inl (gI g, 8, .inl (fun _ => 0)))] := hD
  refine va_putF (D := gD g) (ci := 4) (v := .ref q_4) (ty := .array .int) (C := R_M) (T := F_M) (N := 7) hx hb hF.2.2.2.2 in_M t_M t_M_ok n_M hF.2.2.2.1 hK hP hD hS 0 rfl rfl 5 (by decide) (hF.2.2.2.2 _ fl_M_19) (fun _ h9 => h9) rfl hin rfl (by decide +kernel) rfl rfl (Nat.le_of_ble_eq_true rfl) d_M_init_34 (fun H locs hP hD hS => ?_)
  have hP : va_P (gD g) classes [(h0, .inr (4, [.ref q_1, .int 0, .ref q_2, .int 0, .ref q_3, .ref q_4, .int 0])), (q_1, .inl (gI g, 200, .inl (fun _ => 0))), (q_2, .inl (gI g, 40, .inl (fun _ => 0))), (q_3, .inl (gI g, 8, .inl (fun _ => 0))), (q_4, .inl (gI g, 8, .inl (fun _ => 0)))] H := hP
  have hD : va_D A [(h0, .inr (4, [.ref q_1, .int 0, .ref q_2, .int 0, .ref q_3, .ref q_4, .int 0])), (q_1, .inl (gI g, 200, .inl (fun _ => 0))), (q_2, .inl (gI g, 40, .inl (fun _ => 0))), (q_3, .inl (gI g, 8, .inl (fun _ => 0))), (q_4, .inl (gI g, 8, .inl (fun _ => 0)))] := hD
  refine lv_aload_n hx hb d_M_init_37 rfl (lv_at hl 0 rfl) ?_
  refine lv_bipush (v := 100) hx hb d_M_init_38 (by decide) ?_
  refine va_put (D := gD g) (ci := 4) (v := .int 100) (ty := .int) (C := R_M) (T := F_M) (N := 7) hx hb hF.2.2.2.2 in_M t_M t_M_ok n_M hF.2.2.2.1 hK hP hD hS 0 rfl rfl 6 (by decide) (hF.2.2.2.2 _ fl_M_22) (fun _ h9 => h9) rfl (by decide +kernel) rfl rfl (Nat.le_of_ble_eq_true rfl) d_M_init_40 (fun H locs hP hD hS => ?_)
  have hP : va_P (gD g) classes [(h0, .inr (4, [.ref q_1, .int 0, .ref q_2, .int 0, .ref q_3, .ref q_4, .int 100])), (q_1, .inl (gI g, 200, .inl (fun _ => 0))), (q_2, .inl (gI g, 40, .inl (fun _ => 0))), (q_3, .inl (gI g, 8, .inl (fun _ => 0))), (q_4, .inl (gI g, 8, .inl (fun _ => 0)))] H := hP
  have hD : va_D A [(h0, .inr (4, [.ref q_1, .int 0, .ref q_2, .int 0, .ref q_3, .ref q_4, .int 100])), (q_1, .inl (gI g, 200, .inl (fun _ => 0))), (q_2, .inl (gI g, 40, .inl (fun _ => 0))), (q_3, .inl (gI g, 8, .inl (fun _ => 0))), (q_4, .inl (gI g, 8, .inl (fun _ => 0)))] := hD
  refine lv_iconst (v := 0) hx hb d_M_init_43 (by decide) ?_
  refine lv_istore_n (lv' := [(1, .int 0), (0, .ref h0)]) hx hb d_M_init_44 rfl hl (by decide) rfl (fun ls hl => ?_)
  refine lv_iload_n hx hb d_M_init_45 rfl (lv_at hl 0 rfl) ?_
  refine lv_bipush (v := 8) hx hb d_M_init_46 (by decide) ?_
  refine lv_icmp_ge (tgt := 64) hx hb d_M_init_48 (by decide) (fun c_5 => ?_) (fun c_5 => ?_)
  · exact absurd c_5 (by decide)
  · skip
    refine lv_aload_n hx hb d_M_init_51 rfl (lv_at hl 1 rfl) ?_
    refine va_get (D := gD g) (ci := 4) (v := .ref q_3) (C := R_M) (T := F_M) (N := 7) hx hb hF.2.2.2.2 in_M hF.2.2.2.1 hK hP 0 rfl rfl 4 (by decide) (hF.2.2.2.2 _ fl_M_16) (fun _ h9 => h9) rfl d_M_init_52 ?_
    refine lv_iload_n hx hb d_M_init_55 rfl (lv_at hl 0 rfl) ?_
    refine lv_iconst (v := (-1)) hx hb d_M_init_56 (by decide) ?_
    refine va_iast hx hb hK hP hD hS 3 0 rfl rfl (vp_in_nI (n := 0) (N := 8) (by decide) (by decide)) d_M_init_57 (fun H locs hP hD hS => ?_)
    have hP : va_P (gD g) classes [(h0, .inr (4, [.ref q_1, .int 0, .ref q_2, .int 0, .ref q_3, .ref q_4, .int 100])), (q_1, .inl (gI g, 200, .inl (fun _ => 0))), (q_2, .inl (gI g, 40, .inl (fun _ => 0))), (q_3, .inl (gI g, 8, .inl (upd (fun _ => 0) (0 : Int32).toNatClampNeg (-1)))), (q_4, .inl (gI g, 8, .inl (fun _ => 0)))] H := hP
    have hD : va_D A [(h0, .inr (4, [.ref q_1, .int 0, .ref q_2, .int 0, .ref q_3, .ref q_4, .int 100])), (q_1, .inl (gI g, 200, .inl (fun _ => 0))), (q_2, .inl (gI g, 40, .inl (fun _ => 0))), (q_3, .inl (gI g, 8, .inl (upd (fun _ => 0) (0 : Int32).toNatClampNeg (-1)))), (q_4, .inl (gI g, 8, .inl (fun _ => 0)))] := hD
    refine lv_iinc (v := 1) (lv' := [(1, .int 1), (0, .ref h0)]) hx hb d_M_init_58 hl (k := 0) rfl (by first | rfl | decide) (by decide) rfl (fun ls hl => ?_)
    refine lv_goto (tgt := 45) hx hb d_M_init_61 (by decide) ?_
    refine lv_iload_n hx hb d_M_init_45 rfl (lv_at hl 0 rfl) ?_
    refine lv_bipush (v := 8) hx hb d_M_init_46 (by decide) ?_
    refine lv_icmp_ge (tgt := 64) hx hb d_M_init_48 (by decide) (fun c_6 => ?_) (fun c_6 => ?_)
    · exact absurd c_6 (by decide)
    · skip
      refine lv_aload_n hx hb d_M_init_51 rfl (lv_at hl 1 rfl) ?_
      refine va_get (D := gD g) (ci := 4) (v := .ref q_3) (C := R_M) (T := F_M) (N := 7) hx hb hF.2.2.2.2 in_M hF.2.2.2.1 hK hP 0 rfl rfl 4 (by decide) (hF.2.2.2.2 _ fl_M_16) (fun _ h9 => h9) rfl d_M_init_52 ?_
      refine lv_iload_n hx hb d_M_init_55 rfl (lv_at hl 0 rfl) ?_
      refine lv_iconst (v := (-1)) hx hb d_M_init_56 (by decide) ?_
      refine va_iast hx hb hK hP hD hS 3 0 rfl rfl (vp_in_nI (n := 1) (N := 8) (by decide) (by decide)) d_M_init_57 (fun H locs hP hD hS => ?_)
      have hP : va_P (gD g) classes [(h0, .inr (4, [.ref q_1, .int 0, .ref q_2, .int 0, .ref q_3, .ref q_4, .int 100])), (q_1, .inl (gI g, 200, .inl (fun _ => 0))), (q_2, .inl (gI g, 40, .inl (fun _ => 0))), (q_3, .inl (gI g, 8, .inl (upd (upd (fun _ => 0) (0 : Int32).toNatClampNeg (-1)) (1 : Int32).toNatClampNeg (-1)))), (q_4, .inl (gI g, 8, .inl (fun _ => 0)))] H := hP
      have hD : va_D A [(h0, .inr (4, [.ref q_1, .int 0, .ref q_2, .int 0, .ref q_3, .ref q_4, .int 100])), (q_1, .inl (gI g, 200, .inl (fun _ => 0))), (q_2, .inl (gI g, 40, .inl (fun _ => 0))), (q_3, .inl (gI g, 8, .inl (upd (upd (fun _ => 0) (0 : Int32).toNatClampNeg (-1)) (1 : Int32).toNatClampNeg (-1)))), (q_4, .inl (gI g, 8, .inl (fun _ => 0)))] := hD
      refine lv_iinc (v := 2) (lv' := [(1, .int 2), (0, .ref h0)]) hx hb d_M_init_58 hl (k := 0) rfl (by first | rfl | decide) (by decide) rfl (fun ls hl => ?_)
      refine lv_goto (tgt := 45) hx hb d_M_init_61 (by decide) ?_
      refine lv_iload_n hx hb d_M_init_45 rfl (lv_at hl 0 rfl) ?_
      refine lv_bipush (v := 8) hx hb d_M_init_46 (by decide) ?_
      refine lv_icmp_ge (tgt := 64) hx hb d_M_init_48 (by decide) (fun c_7 => ?_) (fun c_7 => ?_)
      · exact absurd c_7 (by decide)
      · skip
        refine lv_aload_n hx hb d_M_init_51 rfl (lv_at hl 1 rfl) ?_
        refine va_get (D := gD g) (ci := 4) (v := .ref q_3) (C := R_M) (T := F_M) (N := 7) hx hb hF.2.2.2.2 in_M hF.2.2.2.1 hK hP 0 rfl rfl 4 (by decide) (hF.2.2.2.2 _ fl_M_16) (fun _ h9 => h9) rfl d_M_init_52 ?_
        refine lv_iload_n hx hb d_M_init_55 rfl (lv_at hl 0 rfl) ?_
        refine lv_iconst (v := (-1)) hx hb d_M_init_56 (by decide) ?_
        refine va_iast hx hb hK hP hD hS 3 0 rfl rfl (vp_in_nI (n := 2) (N := 8) (by decide) (by decide)) d_M_init_57 (fun H locs hP hD hS => ?_)
        have hP : va_P (gD g) classes [(h0, .inr (4, [.ref q_1, .int 0, .ref q_2, .int 0, .ref q_3, .ref q_4, .int 100])), (q_1, .inl (gI g, 200, .inl (fun _ => 0))), (q_2, .inl (gI g, 40, .inl (fun _ => 0))), (q_3, .inl (gI g, 8, .inl (upd (upd (upd (fun _ => 0) (0 : Int32).toNatClampNeg (-1)) (1 : Int32).toNatClampNeg (-1)) (2 : Int32).toNatClampNeg (-1)))), (q_4, .inl (gI g, 8, .inl (fun _ => 0)))] H := hP
        have hD : va_D A [(h0, .inr (4, [.ref q_1, .int 0, .ref q_2, .int 0, .ref q_3, .ref q_4, .int 100])), (q_1, .inl (gI g, 200, .inl (fun _ => 0))), (q_2, .inl (gI g, 40, .inl (fun _ => 0))), (q_3, .inl (gI g, 8, .inl (upd (upd (upd (fun _ => 0) (0 : Int32).toNatClampNeg (-1)) (1 : Int32).toNatClampNeg (-1)) (2 : Int32).toNatClampNeg (-1)))), (q_4, .inl (gI g, 8, .inl (fun _ => 0)))] := hD
        refine lv_iinc (v := 3) (lv' := [(1, .int 3), (0, .ref h0)]) hx hb d_M_init_58 hl (k := 0) rfl (by first | rfl | decide) (by decide) rfl (fun ls hl => ?_)
        refine lv_goto (tgt := 45) hx hb d_M_init_61 (by decide) ?_
        refine lv_iload_n hx hb d_M_init_45 rfl (lv_at hl 0 rfl) ?_
        refine lv_bipush (v := 8) hx hb d_M_init_46 (by decide) ?_
        refine lv_icmp_ge (tgt := 64) hx hb d_M_init_48 (by decide) (fun c_8 => ?_) (fun c_8 => ?_)
        · exact absurd c_8 (by decide)
        · skip
          refine lv_aload_n hx hb d_M_init_51 rfl (lv_at hl 1 rfl) ?_
          refine va_get (D := gD g) (ci := 4) (v := .ref q_3) (C := R_M) (T := F_M) (N := 7) hx hb hF.2.2.2.2 in_M hF.2.2.2.1 hK hP 0 rfl rfl 4 (by decide) (hF.2.2.2.2 _ fl_M_16) (fun _ h9 => h9) rfl d_M_init_52 ?_
          refine lv_iload_n hx hb d_M_init_55 rfl (lv_at hl 0 rfl) ?_
          refine lv_iconst (v := (-1)) hx hb d_M_init_56 (by decide) ?_
          refine va_iast hx hb hK hP hD hS 3 0 rfl rfl (vp_in_nI (n := 3) (N := 8) (by decide) (by decide)) d_M_init_57 (fun H locs hP hD hS => ?_)
          have hP : va_P (gD g) classes [(h0, .inr (4, [.ref q_1, .int 0, .ref q_2, .int 0, .ref q_3, .ref q_4, .int 100])), (q_1, .inl (gI g, 200, .inl (fun _ => 0))), (q_2, .inl (gI g, 40, .inl (fun _ => 0))), (q_3, .inl (gI g, 8, .inl (upd (upd (upd (upd (fun _ => 0) (0 : Int32).toNatClampNeg (-1)) (1 : Int32).toNatClampNeg (-1)) (2 : Int32).toNatClampNeg (-1)) (3 : Int32).toNatClampNeg (-1)))), (q_4, .inl (gI g, 8, .inl (fun _ => 0)))] H := hP
          have hD : va_D A [(h0, .inr (4, [.ref q_1, .int 0, .ref q_2, .int 0, .ref q_3, .ref q_4, .int 100])), (q_1, .inl (gI g, 200, .inl (fun _ => 0))), (q_2, .inl (gI g, 40, .inl (fun _ => 0))), (q_3, .inl (gI g, 8, .inl (upd (upd (upd (upd (fun _ => 0) (0 : Int32).toNatClampNeg (-1)) (1 : Int32).toNatClampNeg (-1)) (2 : Int32).toNatClampNeg (-1)) (3 : Int32).toNatClampNeg (-1)))), (q_4, .inl (gI g, 8, .inl (fun _ => 0)))] := hD
          refine lv_iinc (v := 4) (lv' := [(1, .int 4), (0, .ref h0)]) hx hb d_M_init_58 hl (k := 0) rfl (by first | rfl | decide) (by decide) rfl (fun ls hl => ?_)
          refine lv_goto (tgt := 45) hx hb d_M_init_61 (by decide) ?_
          refine lv_iload_n hx hb d_M_init_45 rfl (lv_at hl 0 rfl) ?_
          refine lv_bipush (v := 8) hx hb d_M_init_46 (by decide) ?_
          refine lv_icmp_ge (tgt := 64) hx hb d_M_init_48 (by decide) (fun c_9 => ?_) (fun c_9 => ?_)
          · exact absurd c_9 (by decide)
          · skip
            refine lv_aload_n hx hb d_M_init_51 rfl (lv_at hl 1 rfl) ?_
            refine va_get (D := gD g) (ci := 4) (v := .ref q_3) (C := R_M) (T := F_M) (N := 7) hx hb hF.2.2.2.2 in_M hF.2.2.2.1 hK hP 0 rfl rfl 4 (by decide) (hF.2.2.2.2 _ fl_M_16) (fun _ h9 => h9) rfl d_M_init_52 ?_
            refine lv_iload_n hx hb d_M_init_55 rfl (lv_at hl 0 rfl) ?_
            refine lv_iconst (v := (-1)) hx hb d_M_init_56 (by decide) ?_
            refine va_iast hx hb hK hP hD hS 3 0 rfl rfl (vp_in_nI (n := 4) (N := 8) (by decide) (by decide)) d_M_init_57 (fun H locs hP hD hS => ?_)
            have hP : va_P (gD g) classes [(h0, .inr (4, [.ref q_1, .int 0, .ref q_2, .int 0, .ref q_3, .ref q_4, .int 100])), (q_1, .inl (gI g, 200, .inl (fun _ => 0))), (q_2, .inl (gI g, 40, .inl (fun _ => 0))), (q_3, .inl (gI g, 8, .inl (upd (upd (upd (upd (upd (fun _ => 0) (0 : Int32).toNatClampNeg (-1)) (1 : Int32).toNatClampNeg (-1)) (2 : Int32).toNatClampNeg (-1)) (3 : Int32).toNatClampNeg (-1)) (4 : Int32).toNatClampNeg (-1)))), (q_4, .inl (gI g, 8, .inl (fun _ => 0)))] H := hP
            have hD : va_D A [(h0, .inr (4, [.ref q_1, .int 0, .ref q_2, .int 0, .ref q_3, .ref q_4, .int 100])), (q_1, .inl (gI g, 200, .inl (fun _ => 0))), (q_2, .inl (gI g, 40, .inl (fun _ => 0))), (q_3, .inl (gI g, 8, .inl (upd (upd (upd (upd (upd (fun _ => 0) (0 : Int32).toNatClampNeg (-1)) (1 : Int32).toNatClampNeg (-1)) (2 : Int32).toNatClampNeg (-1)) (3 : Int32).toNatClampNeg (-1)) (4 : Int32).toNatClampNeg (-1)))), (q_4, .inl (gI g, 8, .inl (fun _ => 0)))] := hD
            refine lv_iinc (v := 5) (lv' := [(1, .int 5), (0, .ref h0)]) hx hb d_M_init_58 hl (k := 0) rfl (by first | rfl | decide) (by decide) rfl (fun ls hl => ?_)
            refine lv_goto (tgt := 45) hx hb d_M_init_61 (by decide) ?_
            refine lv_iload_n hx hb d_M_init_45 rfl (lv_at hl 0 rfl) ?_
            refine lv_bipush (v := 8) hx hb d_M_init_46 (by decide) ?_
            refine lv_icmp_ge (tgt := 64) hx hb d_M_init_48 (by decide) (fun c_10 => ?_) (fun c_10 => ?_)
            · exact absurd c_10 (by decide)
            · skip
              refine lv_aload_n hx hb d_M_init_51 rfl (lv_at hl 1 rfl) ?_
              refine va_get (D := gD g) (ci := 4) (v := .ref q_3) (C := R_M) (T := F_M) (N := 7) hx hb hF.2.2.2.2 in_M hF.2.2.2.1 hK hP 0 rfl rfl 4 (by decide) (hF.2.2.2.2 _ fl_M_16) (fun _ h9 => h9) rfl d_M_init_52 ?_
              refine lv_iload_n hx hb d_M_init_55 rfl (lv_at hl 0 rfl) ?_
              refine lv_iconst (v := (-1)) hx hb d_M_init_56 (by decide) ?_
              refine va_iast hx hb hK hP hD hS 3 0 rfl rfl (vp_in_nI (n := 5) (N := 8) (by decide) (by decide)) d_M_init_57 (fun H locs hP hD hS => ?_)
              have hP : va_P (gD g) classes [(h0, .inr (4, [.ref q_1, .int 0, .ref q_2, .int 0, .ref q_3, .ref q_4, .int 100])), (q_1, .inl (gI g, 200, .inl (fun _ => 0))), (q_2, .inl (gI g, 40, .inl (fun _ => 0))), (q_3, .inl (gI g, 8, .inl (upd (upd (upd (upd (upd (upd (fun _ => 0) (0 : Int32).toNatClampNeg (-1)) (1 : Int32).toNatClampNeg (-1)) (2 : Int32).toNatClampNeg (-1)) (3 : Int32).toNatClampNeg (-1)) (4 : Int32).toNatClampNeg (-1)) (5 : Int32).toNatClampNeg (-1)))), (q_4, .inl (gI g, 8, .inl (fun _ => 0)))] H := hP
              have hD : va_D A [(h0, .inr (4, [.ref q_1, .int 0, .ref q_2, .int 0, .ref q_3, .ref q_4, .int 100])), (q_1, .inl (gI g, 200, .inl (fun _ => 0))), (q_2, .inl (gI g, 40, .inl (fun _ => 0))), (q_3, .inl (gI g, 8, .inl (upd (upd (upd (upd (upd (upd (fun _ => 0) (0 : Int32).toNatClampNeg (-1)) (1 : Int32).toNatClampNeg (-1)) (2 : Int32).toNatClampNeg (-1)) (3 : Int32).toNatClampNeg (-1)) (4 : Int32).toNatClampNeg (-1)) (5 : Int32).toNatClampNeg (-1)))), (q_4, .inl (gI g, 8, .inl (fun _ => 0)))] := hD
              refine lv_iinc (v := 6) (lv' := [(1, .int 6), (0, .ref h0)]) hx hb d_M_init_58 hl (k := 0) rfl (by first | rfl | decide) (by decide) rfl (fun ls hl => ?_)
              refine lv_goto (tgt := 45) hx hb d_M_init_61 (by decide) ?_
              refine lv_iload_n hx hb d_M_init_45 rfl (lv_at hl 0 rfl) ?_
              refine lv_bipush (v := 8) hx hb d_M_init_46 (by decide) ?_
              refine lv_icmp_ge (tgt := 64) hx hb d_M_init_48 (by decide) (fun c_11 => ?_) (fun c_11 => ?_)
              · exact absurd c_11 (by decide)
              · skip
                refine lv_aload_n hx hb d_M_init_51 rfl (lv_at hl 1 rfl) ?_
                refine va_get (D := gD g) (ci := 4) (v := .ref q_3) (C := R_M) (T := F_M) (N := 7) hx hb hF.2.2.2.2 in_M hF.2.2.2.1 hK hP 0 rfl rfl 4 (by decide) (hF.2.2.2.2 _ fl_M_16) (fun _ h9 => h9) rfl d_M_init_52 ?_
                refine lv_iload_n hx hb d_M_init_55 rfl (lv_at hl 0 rfl) ?_
                refine lv_iconst (v := (-1)) hx hb d_M_init_56 (by decide) ?_
                refine va_iast hx hb hK hP hD hS 3 0 rfl rfl (vp_in_nI (n := 6) (N := 8) (by decide) (by decide)) d_M_init_57 (fun H locs hP hD hS => ?_)
                have hP : va_P (gD g) classes [(h0, .inr (4, [.ref q_1, .int 0, .ref q_2, .int 0, .ref q_3, .ref q_4, .int 100])), (q_1, .inl (gI g, 200, .inl (fun _ => 0))), (q_2, .inl (gI g, 40, .inl (fun _ => 0))), (q_3, .inl (gI g, 8, .inl (upd (upd (upd (upd (upd (upd (upd (fun _ => 0) (0 : Int32).toNatClampNeg (-1)) (1 : Int32).toNatClampNeg (-1)) (2 : Int32).toNatClampNeg (-1)) (3 : Int32).toNatClampNeg (-1)) (4 : Int32).toNatClampNeg (-1)) (5 : Int32).toNatClampNeg (-1)) (6 : Int32).toNatClampNeg (-1)))), (q_4, .inl (gI g, 8, .inl (fun _ => 0)))] H := hP
                have hD : va_D A [(h0, .inr (4, [.ref q_1, .int 0, .ref q_2, .int 0, .ref q_3, .ref q_4, .int 100])), (q_1, .inl (gI g, 200, .inl (fun _ => 0))), (q_2, .inl (gI g, 40, .inl (fun _ => 0))), (q_3, .inl (gI g, 8, .inl (upd (upd (upd (upd (upd (upd (upd (fun _ => 0) (0 : Int32).toNatClampNeg (-1)) (1 : Int32).toNatClampNeg (-1)) (2 : Int32).toNatClampNeg (-1)) (3 : Int32).toNatClampNeg (-1)) (4 : Int32).toNatClampNeg (-1)) (5 : Int32).toNatClampNeg (-1)) (6 : Int32).toNatClampNeg (-1)))), (q_4, .inl (gI g, 8, .inl (fun _ => 0)))] := hD
                refine lv_iinc (v := 7) (lv' := [(1, .int 7), (0, .ref h0)]) hx hb d_M_init_58 hl (k := 0) rfl (by first | rfl | decide) (by decide) rfl (fun ls hl => ?_)
                refine lv_goto (tgt := 45) hx hb d_M_init_61 (by decide) ?_
                refine lv_iload_n hx hb d_M_init_45 rfl (lv_at hl 0 rfl) ?_
                refine lv_bipush (v := 8) hx hb d_M_init_46 (by decide) ?_
                refine lv_icmp_ge (tgt := 64) hx hb d_M_init_48 (by decide) (fun c_12 => ?_) (fun c_12 => ?_)
                · exact absurd c_12 (by decide)
                · skip
                  refine lv_aload_n hx hb d_M_init_51 rfl (lv_at hl 1 rfl) ?_
                  refine va_get (D := gD g) (ci := 4) (v := .ref q_3) (C := R_M) (T := F_M) (N := 7) hx hb hF.2.2.2.2 in_M hF.2.2.2.1 hK hP 0 rfl rfl 4 (by decide) (hF.2.2.2.2 _ fl_M_16) (fun _ h9 => h9) rfl d_M_init_52 ?_
                  refine lv_iload_n hx hb d_M_init_55 rfl (lv_at hl 0 rfl) ?_
                  refine lv_iconst (v := (-1)) hx hb d_M_init_56 (by decide) ?_
                  refine va_iast hx hb hK hP hD hS 3 0 rfl rfl (vp_in_nI (n := 7) (N := 8) (by decide) (by decide)) d_M_init_57 (fun H locs hP hD hS => ?_)
                  have hP : va_P (gD g) classes [(h0, .inr (4, [.ref q_1, .int 0, .ref q_2, .int 0, .ref q_3, .ref q_4, .int 100])), (q_1, .inl (gI g, 200, .inl (fun _ => 0))), (q_2, .inl (gI g, 40, .inl (fun _ => 0))), (q_3, .inl (gI g, 8, .inl (upd (upd (upd (upd (upd (upd (upd (upd (fun _ => 0) (0 : Int32).toNatClampNeg (-1)) (1 : Int32).toNatClampNeg (-1)) (2 : Int32).toNatClampNeg (-1)) (3 : Int32).toNatClampNeg (-1)) (4 : Int32).toNatClampNeg (-1)) (5 : Int32).toNatClampNeg (-1)) (6 : Int32).toNatClampNeg (-1)) (7 : Int32).toNatClampNeg (-1)))), (q_4, .inl (gI g, 8, .inl (fun _ => 0)))] H := hP
                  have hD : va_D A [(h0, .inr (4, [.ref q_1, .int 0, .ref q_2, .int 0, .ref q_3, .ref q_4, .int 100])), (q_1, .inl (gI g, 200, .inl (fun _ => 0))), (q_2, .inl (gI g, 40, .inl (fun _ => 0))), (q_3, .inl (gI g, 8, .inl (upd (upd (upd (upd (upd (upd (upd (upd (fun _ => 0) (0 : Int32).toNatClampNeg (-1)) (1 : Int32).toNatClampNeg (-1)) (2 : Int32).toNatClampNeg (-1)) (3 : Int32).toNatClampNeg (-1)) (4 : Int32).toNatClampNeg (-1)) (5 : Int32).toNatClampNeg (-1)) (6 : Int32).toNatClampNeg (-1)) (7 : Int32).toNatClampNeg (-1)))), (q_4, .inl (gI g, 8, .inl (fun _ => 0)))] := hD
                  refine lv_iinc (v := 8) (lv' := [(1, .int 8), (0, .ref h0)]) hx hb d_M_init_58 hl (k := 0) rfl (by first | rfl | decide) (by decide) rfl (fun ls hl => ?_)
                  refine lv_goto (tgt := 45) hx hb d_M_init_61 (by decide) ?_
                  refine lv_iload_n hx hb d_M_init_45 rfl (lv_at hl 0 rfl) ?_
                  refine lv_bipush (v := 8) hx hb d_M_init_46 (by decide) ?_
                  refine lv_icmp_ge (tgt := 64) hx hb d_M_init_48 (by decide) (fun c_13 => ?_) (fun c_13 => ?_)
                  · skip
                    exact ret_v hx hb hr hlk (hP.sub (ws' := [(h0, .inr (4, [.ref q_1, .int 0, .ref q_2, .int 0, .ref q_3, .ref q_4, .int 100])), (q_1, .inl (gI g, 200, .inl (fun _ => 0))), (q_2, .inl (gI g, 40, .inl (fun _ => 0))), (q_3, .inl (gI g, 8, .inl (upd (upd (upd (upd (upd (upd (upd (upd (fun _ => 0) (0 : Int32).toNatClampNeg (-1)) (1 : Int32).toNatClampNeg (-1)) (2 : Int32).toNatClampNeg (-1)) (3 : Int32).toNatClampNeg (-1)) (4 : Int32).toNatClampNeg (-1)) (5 : Int32).toNatClampNeg (-1)) (6 : Int32).toNatClampNeg (-1)) (7 : Int32).toNatClampNeg (-1)))), (q_4, .inl (gI g, 8, .inl (fun _ => 0)))]) [0, 1, 2, 3, 4] rfl) (hD.sub (ws' := [(h0, .inr (4, [.ref q_1, .int 0, .ref q_2, .int 0, .ref q_3, .ref q_4, .int 100])), (q_1, .inl (gI g, 200, .inl (fun _ => 0))), (q_2, .inl (gI g, 40, .inl (fun _ => 0))), (q_3, .inl (gI g, 8, .inl (upd (upd (upd (upd (upd (upd (upd (upd (fun _ => 0) (0 : Int32).toNatClampNeg (-1)) (1 : Int32).toNatClampNeg (-1)) (2 : Int32).toNatClampNeg (-1)) (3 : Int32).toNatClampNeg (-1)) (4 : Int32).toNatClampNeg (-1)) (5 : Int32).toNatClampNeg (-1)) (6 : Int32).toNatClampNeg (-1)) (7 : Int32).toNatClampNeg (-1)))), (q_4, .inl (gI g, 8, .inl (fun _ => 0)))]) [0, 1, 2, 3, 4] rfl rfl) hS ⟨_, _, _, _, _, rfl, by decide +kernel, u_lt (u_lt (u_lt (u_lt (u_lt (u_lt (u_lt (u_lt (fun _ => by decide) _ _ (by decide)) _ _ (by decide)) _ _ (by decide)) _ _ (by decide)) _ _ (by decide)) _ _ (by decide)) _ _ (by decide)) _ _ (by decide)⟩ (by first | exact Nat.le_of_ble_eq_true rfl | (dsimp only; omega) | omega) (by first | exact Nat.le_of_ble_eq_true rfl | (dsimp only; omega) | omega) d_M_init_64
                  · exact absurd c_13 (by decide)
