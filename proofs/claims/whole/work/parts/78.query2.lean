set_option maxRecDepth 100000 in
theorem k_Q_length : ck y_Q_length b_Q_length 1 (some .int) 0 (.instanceMethod y_Q_length) := ⟨tk_of (List.mem_of_getElem? (i := 547) rfl) rfl, tk_of (List.mem_of_getElem? (i := 546) (by decide +kernel)) rfl, tk_of (List.mem_of_getElem? (i := 42) (by decide +kernel)) rfl, by decide +kernel⟩
set_option maxHeartbeats 4000000 in
set_option maxRecDepth 100000 in
theorem c_Q_length (g : gT) (l : Launch) (sz : Nat) (q0 b v cp : Nat) (ml : Int32) (a : Nat → Int32) (xs : List Nat) (ht : tx xs cp a) : Mg g l y_Q_length b_Q_length 1 (some .int) 2 40 0 0 [.ref q0] [(q0, .inr (2, [.ref b])), (b, .inr (3, [.ref v, .int 0, .int ml, .int (nI xs.length)])), (v, .inl (gB g, cp, .inl a))] sz (qI g (fun r w1 => r = nI xs.length ∧ w1 = [(q0, .inr (2, [.ref b])), (b, .inr (3, [.ref v, .int 0, .int ml, .int (nI xs.length)])), (v, .inl (gB g, cp, .inl a))])) := by
  refine mg_of (by decide) (Nat.le_of_ble_eq_true rfl) ?_
  intro p e s m below meth c ls A hx hb hF hr hlk hnm hA G hP hD hS hl
  have hK := G.2.1
  have hN := G.1
  have hl : lv_has ls 1 [(0, .ref q0)] := hl
  refine lv_aload_n hx hb d_Q_length_0 rfl (lv_at hl 0 rfl) ?_
  refine va_get (D := gD g) (ci := 2) (v := .ref b) (C := R_Q) (T := F_Q) (N := 1) hx hb hF.2.2.2.2 in_Q hF.2.2.2.1 hK hP 0 rfl rfl 0 (by decide) (hF.2.2.2.2 _ fl_Q_12) (fun _ h9 => h9) rfl d_Q_length_1 ?_
  refine go_i (wr := [(q0, .inr (2, [.ref b]))]) (run_V hF (c_SB_length g l _ b v xs.length cp ml a) k_SB_length j_Q_18 se_SB_SB_length (va_recv hK hP (ci := 3) (q0 := 1) rfl rfl) (cw_down G hP hD hS hA [1, 2] rfl rfl) ⟨Nat.le_of_ble_eq_true rfl, Nat.le_of_ble_eq_true rfl⟩ rfl hl.1 (Nat.le_of_ble_eq_true rfl) d_Q_length_4 ⟨(by first | exact Nat.le_of_ble_eq_true rfl | (dsimp only; omega) | omega), (by first | exact Nat.le_of_ble_eq_true rfl | (dsimp only; omega) | omega)⟩) hP hD hS hA [1, 2] [0] rfl rfl rfl (by decide) (fun r_1 w1 H locs hp hP hD hS => ?_)
  obtain ⟨rfl, rfl⟩ := hp
  have hP : va_P (gD g) classes [(q0, .inr (2, [.ref b])), (b, .inr (3, [.ref v, .int 0, .int ml, .int (nI xs.length)])), (v, .inl (gB g, cp, .inl a))] H := hP
  have hD : va_D A [(q0, .inr (2, [.ref b])), (b, .inr (3, [.ref v, .int 0, .int ml, .int (nI xs.length)])), (v, .inl (gB g, cp, .inl a))] := hD
  exact ret_i hx hb hr hlk (hP.sub (ws' := [(q0, .inr (2, [.ref b])), (b, .inr (3, [.ref v, .int 0, .int ml, .int (nI xs.length)])), (v, .inl (gB g, cp, .inl a))]) [0, 1, 2] rfl) (hD.sub (ws' := [(q0, .inr (2, [.ref b])), (b, .inr (3, [.ref v, .int 0, .int ml, .int (nI xs.length)])), (v, .inl (gB g, cp, .inl a))]) [0, 1, 2] rfl rfl) hS (nar_i _) ⟨rfl, rfl⟩ (by first | exact Nat.le_of_ble_eq_true rfl | (dsimp only; omega) | omega) (by first | exact Nat.le_of_ble_eq_true rfl | (dsimp only; omega) | omega) d_Q_length_7
set_option maxRecDepth 100000 in
theorem k_Q_clear : ck y_Q_clear b_Q_clear 1 (none) 0 (.instanceMethod y_Q_clear) := ⟨tk_of (List.mem_of_getElem? (i := 629) rfl) rfl, tk_of (List.mem_of_getElem? (i := 628) (by decide +kernel)) rfl, tk_of (List.mem_of_getElem? (i := 42) (by decide +kernel)) rfl, by decide +kernel⟩
theorem j_Q_22 : Cond.methodLink R_Q 22 y_SB_setLength ∈ tk := tk_of (List.mem_of_getElem? (i := 630) (by decide +kernel)) rfl
set_option maxHeartbeats 4000000 in
set_option maxRecDepth 100000 in
theorem c_Q_clear (g : gT) (l : Launch) (sz : Nat) (q0 b v cp : Nat) (ml : Int32) (a : Nat → Int32) (xs : List Nat) (ht : tx xs cp a) : Mg g l y_Q_clear b_Q_clear 1 (none) 6 146 0 0 [.ref q0] [(q0, .inr (2, [.ref b])), (b, .inr (3, [.ref v, .int 0, .int ml, .int (nI xs.length)])), (v, .inl (gB g, cp, .inl a))] sz (qV g (fun w1 => ∃ (v' : Nat) (ml' : Int32) (f : Nat → Int32), w1 = [(q0, .inr (2, [.ref b])), (b, .inr (3, [.ref v', .int 0, .int ml', .int (nI ([] : List Nat).length)])), (v', .inl (gB g, cp, .inl f))] ∧ tx [] cp f)) := by
  refine mg_of (by decide) (Nat.le_of_ble_eq_true rfl) ?_
  intro p e s m below meth c ls A hx hb hF hr hlk hnm hA G hP hD hS hl
  have hK := G.2.1
  have hN := G.1
  have hl : lv_has ls 1 [(0, .ref q0)] := hl
  refine lv_aload_n hx hb d_Q_clear_0 rfl (lv_at hl 0 rfl) ?_
  refine va_get (D := gD g) (ci := 2) (v := .ref b) (C := R_Q) (T := F_Q) (N := 1) hx hb hF.2.2.2.2 in_Q hF.2.2.2.1 hK hP 0 rfl rfl 0 (by decide) (hF.2.2.2.2 _ fl_Q_12) (fun _ h9 => h9) rfl d_Q_clear_1 ?_
  refine lv_iconst (v := 0) hx hb d_Q_clear_4 (by decide) ?_
  refine go_v (wr := [(q0, .inr (2, [.ref b]))]) (run_V hF (c_SB_setLength g l _ b v cp ml a xs ht) k_SB_setLength j_Q_22 se_SB_SB_setLength (va_recv hK hP (ci := 3) (q0 := 1) rfl rfl) (cw_down G hP hD hS hA [1, 2] rfl rfl) ⟨Nat.le_of_ble_eq_true rfl, Nat.le_of_ble_eq_true rfl⟩ rfl hl.1 (Nat.le_of_ble_eq_true rfl) d_Q_clear_5 ⟨(by first | exact Nat.le_of_ble_eq_true rfl | (dsimp only; omega) | omega), (by first | exact Nat.le_of_ble_eq_true rfl | (dsimp only; omega) | omega)⟩) hP hD hS hA [1, 2] [0] rfl rfl rfl (by decide) (fun w1 H locs hp hP hD hS => ?_)
  obtain ⟨v_2, ml_2, f_2, rfl, ht_2⟩ := hp
  have hP : va_P (gD g) classes [(q0, .inr (2, [.ref b])), (b, .inr (3, [.ref v_2, .int 0, .int ml_2, .int (nI ([] : List Nat).length)])), (v_2, .inl (gB g, cp, .inl f_2))] H := hP
  have hD : va_D A [(q0, .inr (2, [.ref b])), (b, .inr (3, [.ref v_2, .int 0, .int ml_2, .int (nI ([] : List Nat).length)])), (v_2, .inl (gB g, cp, .inl f_2))] := hD
  exact ret_v hx hb hr hlk (hP.sub (ws' := [(q0, .inr (2, [.ref b])), (b, .inr (3, [.ref v_2, .int 0, .int ml_2, .int (nI ([] : List Nat).length)])), (v_2, .inl (gB g, cp, .inl f_2))]) [0, 1, 2] rfl) (hD.sub (ws' := [(q0, .inr (2, [.ref b])), (b, .inr (3, [.ref v_2, .int 0, .int ml_2, .int (nI ([] : List Nat).length)])), (v_2, .inl (gB g, cp, .inl f_2))]) [0, 1, 2] rfl rfl) hS ⟨_, _, _, rfl, ht_2⟩ (by first | exact Nat.le_of_ble_eq_true rfl | (dsimp only; omega) | omega) (by first | exact Nat.le_of_ble_eq_true rfl | (dsimp only; omega) | omega) d_Q_clear_8
set_option maxRecDepth 100000 in
theorem k_P_type : ck y_P_type b_P_type 2 (some .int) 1 (.instanceMethod y_P_type) := ⟨tk_of (List.mem_of_getElem? (i := 533) rfl) rfl, tk_of (List.mem_of_getElem? (i := 531) (by decide +kernel)) rfl, tk_of (List.mem_of_getElem? (i := 36) (by decide +kernel)) rfl, by decide +kernel⟩
theorem fl_P_23 : Cond.fieldLink R_P 23 R_P "query" "LClassProbe$Query;" ∈ tk := tk_of (List.mem_of_getElem? (i := 117) (by decide +kernel)) rfl
theorem j_P_93 : Cond.methodLinkNest R_P 93 y_Q_add R_P ∈ nw_l := nw_of (List.mem_of_getElem? (i := 534) (by decide +kernel)) rfl
theorem se_Q_Q_add : Cond.selects R_Q y_Q_add y_Q_add ∈ tk := tk_of (List.mem_of_getElem? (i := 12) (by decide +kernel)) rfl
set_option maxHeartbeats 4000000 in
set_option maxRecDepth 100000 in
theorem c_P_type (g : gT) (l : Launch) (sz : Nat) (p0 ha s0 : Nat) (q0 b v cp : Nat) (ml : Int32) (a : Nat → Int32) (xs : List Nat) (ht : tx xs cp a) (ch : Int32) (hx40 : xs.length ≤ 40) : Mg g l y_P_type b_P_type 2 (some .int) 7 167 7 252 [.ref p0, .int ch] [(p0, .inr (0, [.ref ha, .ref s0, .ref q0])), (q0, .inr (2, [.ref b])), (b, .inr (3, [.ref v, .int 0, .int ml, .int (nI xs.length)])), (v, .inl (gB g, cp, .inl a))] sz (qI g (fun r w1 => ∃ (v' cp' : Nat) (ml' : Int32) (f : Nat → Int32), w1 = [(p0, .inr (0, [.ref ha, .ref s0, .ref q0])), (q0, .inr (2, [.ref b])), (b, .inr (3, [.ref v', .int 0, .int ml', .int (nI (zt_Q_add xs ch).1.length)])), (v', .inl (gB g, cp', .inl f))] ∧ tx (zt_Q_add xs ch).1 cp' f ∧ (zt_Q_add xs ch).1.length ≤ 40 ∧ r = (zt_Q_add xs ch).2)) := by
  refine mg_of (by decide) (Nat.le_of_ble_eq_true rfl) ?_
  intro p e s m below meth c ls A hx hb hF hr hlk hnm hA G hP hD hS hl
  have hK := G.2.1
  have hN := G.1
  have hl : lv_has ls 2 [(0, .ref p0), (1, .int ch)] := hl
  refine lv_aload_n hx hb d_P_type_0 rfl (lv_at hl 0 rfl) ?_
  refine va_get (D := gD g) (ci := 0) (v := .ref q0) (C := R_P) (T := F_P) (N := 3) hx hb hF.2.2.2.2 in_P hF.2.2.2.1 hK hP 0 rfl rfl 2 (by decide) (hF.2.2.2.2 _ fl_P_23) (fun _ h9 => h9) rfl d_P_type_1 ?_
  refine lv_iload_n hx hb d_P_type_4 rfl (lv_at hl 1 rfl) ?_
  refine go_i (wr := [(p0, .inr (0, [.ref ha, .ref s0, .ref q0]))]) (run_VN hF G.1 (c_Q_add g l _ q0 b v cp ml a xs ht ch hx40) k_Q_add j_P_93 se_Q_Q_add (va_recv hK hP (ci := 2) (q0 := 1) rfl rfl) (cw_down G hP hD hS hA [1, 2, 3] rfl rfl) ⟨Nat.le_of_ble_eq_true rfl, Nat.le_of_ble_eq_true rfl⟩ rfl hl.1 (Nat.le_of_ble_eq_true rfl) d_P_type_5 ⟨(by first | exact Nat.le_of_ble_eq_true rfl | (dsimp only; omega) | omega), (by first | exact Nat.le_of_ble_eq_true rfl | (dsimp only; omega) | omega)⟩) hP hD hS hA [1, 2, 3] [0] rfl rfl rfl (by decide) (fun r_1 w1 H locs hp hP hD hS => ?_)
  obtain ⟨v_2, cp_2, ml_2, f_2, rfl, ht_2, h40_2, rfl⟩ := hp
  have hP : va_P (gD g) classes [(p0, .inr (0, [.ref ha, .ref s0, .ref q0])), (q0, .inr (2, [.ref b])), (b, .inr (3, [.ref v_2, .int 0, .int ml_2, .int (nI (zt_Q_add xs ch).1.length)])), (v_2, .inl (gB g, cp_2, .inl f_2))] H := hP
  have hD : va_D A [(p0, .inr (0, [.ref ha, .ref s0, .ref q0])), (q0, .inr (2, [.ref b])), (b, .inr (3, [.ref v_2, .int 0, .int ml_2, .int (nI (zt_Q_add xs ch).1.length)])), (v_2, .inl (gB g, cp_2, .inl f_2))] := hD
  exact ret_i hx hb hr hlk (hP.sub (ws' := [(p0, .inr (0, [.ref ha, .ref s0, .ref q0])), (q0, .inr (2, [.ref b])), (b, .inr (3, [.ref v_2, .int 0, .int ml_2, .int (nI (zt_Q_add xs ch).1.length)])), (v_2, .inl (gB g, cp_2, .inl f_2))]) [0, 1, 2, 3] rfl) (hD.sub (ws' := [(p0, .inr (0, [.ref ha, .ref s0, .ref q0])), (q0, .inr (2, [.ref b])), (b, .inr (3, [.ref v_2, .int 0, .int ml_2, .int (nI (zt_Q_add xs ch).1.length)])), (v_2, .inl (gB g, cp_2, .inl f_2))]) [0, 1, 2, 3] rfl rfl) hS (nar_i _) ⟨_, _, _, _, rfl, ht_2, h40_2, rfl⟩ (by first | exact Nat.le_of_ble_eq_true rfl | (dsimp only; omega) | omega) (by first | exact Nat.le_of_ble_eq_true rfl | (dsimp only; omega) | omega) d_P_type_8
/-- types: the bytes below place n -/
def zg_P_types (w : Int64) : Nat → List Nat → List Nat × Int32
  | 0, xs => (xs, nI xs.length)
  | n + 1, xs => if by8 w (nI (8 * n)) = 0 then zg_P_types w n xs else if 0 ≤ (zt_Q_add xs (by8 w (nI (8 * n)))).2 then zg_P_types w n (zt_Q_add xs (by8 w (nI (8 * n)))).1 else zt_Q_add xs (by8 w (nI (8 * n)))
def zt_P_types (xs : List Nat) (w : Int64) : List Nat × Int32 := zg_P_types w 8 xs
set_option maxRecDepth 100000 in
theorem k_P_types : ck y_P_types b_P_types 6 (some .int) 1 (.instanceMethod y_P_types) := ⟨tk_of (List.mem_of_getElem? (i := 543) rfl) rfl, tk_of (List.mem_of_getElem? (i := 541) (by decide +kernel)) rfl, tk_of (List.mem_of_getElem? (i := 36) (by decide +kernel)) rfl, by decide +kernel⟩
theorem j_P_96 : Cond.methodLinkNest R_P 96 y_Q_length R_P ∈ nw_l := nw_of (List.mem_of_getElem? (i := 544) (by decide +kernel)) rfl
theorem se_Q_Q_length : Cond.selects R_Q y_Q_length y_Q_length ∈ tk := tk_of (List.mem_of_getElem? (i := 13) (by decide +kernel)) rfl
set_option maxHeartbeats 4000000 in
set_option maxRecDepth 100000 in
theorem lp_P_types {p : Program} {l : Launch} {e : Env} {s : State} {m : MethodId} {args : Array Value} {below : List Frame} {meth : Method} {c : Code} {g : gT} {A : Nat → Prop} (p0 ha s0 q0 b : Nat) (w : Int64) (hx : p.tables.exec = Jvm.exec) (hb : c.code = b_P_types) (hF : CallFix p m c b_P_types 6 s args tk R_P) (hr : meth.sig.returnType = some .int) (hlk : meth.locks = false) (hA : ∀ q, s.heap.size ≤ q → A q) (G : Gx g A s s.heap) (E : List Nat × Int32) :
    ∀ (n : Nat), n ≤ 8 → ∀ (xs : List Nat) (v cp : Nat) (ml : Int32) (a : Nat → Int32) (ht : tx xs cp a) (hx40 : xs.length ≤ 40) (cells slots : Nat) (x : Int32), cells + 7 * n ≤ 56 → slots + 252 * n ≤ 2016 → x + 8 = nI (8 * n) → zg_P_types w n xs = E → ∀ (H : Heap) (locs : List Loc), va_P (gD g) classes [(p0, .inr (0, [.ref ha, .ref s0, .ref q0])), (q0, .inr (2, [.ref b])), (b, .inr (3, [.ref v, .int 0, .int ml, .int (nI xs.length)])), (v, .inl (gB g, cp, .inl a))] H → va_D A [(p0, .inr (0, [.ref ha, .ref s0, .ref q0])), (q0, .inr (2, [.ref b])), (b, .inr (3, [.ref v, .int 0, .int ml, .int (nI xs.length)])), (v, .inl (gB g, cp, .inl a))] → va_S A s.heap H locs → ∀ ls : Array Slot, lv_has ls 6 [(3, .int x), (0, .ref p0), (1, .long w)] → W p l e ({ frames := 7, cells := 56, slots := 2016, locals := 167 }) s m args below meth c H locs cells slots (MQ below (qI g (fun r w1 => ∃ (v' cp' : Nat) (ml' : Int32) (f : Nat → Int32), w1 = [(p0, .inr (0, [.ref ha, .ref s0, .ref q0])), (q0, .inr (2, [.ref b])), (b, .inr (3, [.ref v', .int 0, .int ml', .int (nI E.1.length)])), (v', .inl (gB g, cp', .inl f))] ∧ tx E.1 cp' f ∧ E.1.length ≤ 40 ∧ r = E.2) A) args s 56 2016 A) (F0 m 3 ls []) := by
  have hK := G.2.1
  have hN := G.1
  intro n
  induction n with
  | zero =>
    intro hn8 xs v cp ml a ht hx40 cells slots x hc1 hc2 ex hp1 H locs hP hD hS ls hl
    have hneg : x < 0 := m_neg8 ex
    have e1 : (xs, nI xs.length) = E := hp1
    refine lv_iload_n hx hb d_P_types_3 rfl (lv_at hl 0 rfl) ?_
    refine lv_if_lt (tgt := 51) hx hb d_P_types_4 (by decide) (fun c_1 => ?_) (fun c_1 => absurd hneg c_1)
    refine lv_aload_n hx hb d_P_types_51 rfl (lv_at hl 1 rfl) ?_
    refine va_get (D := gD g) (ci := 0) (v := .ref q0) (C := R_P) (T := F_P) (N := 3) hx hb hF.2.2.2.2 in_P hF.2.2.2.1 hK hP 0 rfl rfl 2 (by decide) (hF.2.2.2.2 _ fl_P_23) (fun _ h9 => h9) rfl d_P_types_52 ?_
    refine go_i (wr := [(p0, .inr (0, [.ref ha, .ref s0, .ref q0]))]) (run_VN hF G.1 (c_Q_length g l _ q0 b v cp ml a xs ht) k_Q_length j_P_96 se_Q_Q_length (va_recv hK hP (ci := 2) (q0 := 1) rfl rfl) (cw_down G hP hD hS hA [1, 2, 3] rfl rfl) ⟨Nat.le_of_ble_eq_true rfl, Nat.le_of_ble_eq_true rfl⟩ rfl hl.1 (Nat.le_of_ble_eq_true rfl) d_P_types_55 ⟨(by first | exact Nat.le_of_ble_eq_true rfl | (dsimp only; omega) | omega), (by first | exact Nat.le_of_ble_eq_true rfl | (dsimp only; omega) | omega)⟩) hP hD hS hA [1, 2, 3] [0] rfl rfl rfl (by decide) (fun r_2 w1 H locs hp hP hD hS => ?_)
    obtain ⟨rfl, rfl⟩ := hp
    have hP : va_P (gD g) classes [(p0, .inr (0, [.ref ha, .ref s0, .ref q0])), (q0, .inr (2, [.ref b])), (b, .inr (3, [.ref v, .int 0, .int ml, .int (nI xs.length)])), (v, .inl (gB g, cp, .inl a))] H := hP
    have hD : va_D A [(p0, .inr (0, [.ref ha, .ref s0, .ref q0])), (q0, .inr (2, [.ref b])), (b, .inr (3, [.ref v, .int 0, .int ml, .int (nI xs.length)])), (v, .inl (gB g, cp, .inl a))] := hD
    exact ret_i hx hb hr hlk (hP.sub (ws' := [(p0, .inr (0, [.ref ha, .ref s0, .ref q0])), (q0, .inr (2, [.ref b])), (b, .inr (3, [.ref v, .int 0, .int ml, .int (nI xs.length)])), (v, .inl (gB g, cp, .inl a))]) [0, 1, 2, 3] rfl) (hD.sub (ws' := [(p0, .inr (0, [.ref ha, .ref s0, .ref q0])), (q0, .inr (2, [.ref b])), (b, .inr (3, [.ref v, .int 0, .int ml, .int (nI xs.length)])), (v, .inl (gB g, cp, .inl a))]) [0, 1, 2, 3] rfl rfl) hS (nar_i _) ⟨_, _, _, _, by rw [← e1], by rw [← e1]; exact ht, by rw [← e1]; exact hx40, by rw [← e1]⟩ (by first | exact Nat.le_of_ble_eq_true rfl | (dsimp only; omega) | omega) (by first | exact Nat.le_of_ble_eq_true rfl | (dsimp only; omega) | omega) d_P_types_58
  | succ n ih =>
    intro hn8 xs v cp ml a ht hx40 cells slots x hc1 hc2 ex hp1 H locs hP hD hS ls hl
    have ih := ih (by omega)
    have ex : x = nI (8 * n) := m_pos8 ex
    have hpos : ¬ x < 0 := by rw [ex]; exact nI_pos (by omega)
    refine lv_iload_n hx hb d_P_types_3 rfl (lv_at hl 0 rfl) ?_
    refine lv_if_lt (tgt := 51) hx hb d_P_types_4 (by decide) (fun c_1 => absurd c_1 hpos) (fun c_1 => ?_)
    refine lv_lload_n hx hb d_P_types_7 rfl (lv_at hl 2 rfl) ?_
    refine lv_iload_n hx hb d_P_types_8 rfl (lv_at hl 0 rfl) ?_
    refine lv_lushr hx hb d_P_types_9 rfl ?_
    refine lv_l2i hx hb d_P_types_10 rfl ?_
    refine lv_sipush (v := 255) hx hb d_P_types_11 (by decide) ?_
    refine lv_iand hx hb d_P_types_14 ?_
    refine tp_i (y := by8 w x) rfl ?_
    refine lv_istore (lv' := [(4, .int (by8 w x)), (3, .int x), (0, .ref p0), (1, .long w)]) hx hb d_P_types_15 hl (by decide) rfl (fun ls hl => ?_)
    refine lv_iload hx hb d_P_types_17 (lv_at hl 0 rfl) ?_
    refine lv_if_ne (tgt := 26) hx hb d_P_types_19 (by decide) (fun c_2 => ?_) (fun c_2 => ?_)
    · skip
      refine lv_aload_n hx hb d_P_types_26 rfl (lv_at hl 2 rfl) ?_
      refine va_get (D := gD g) (ci := 0) (v := .ref q0) (C := R_P) (T := F_P) (N := 3) hx hb hF.2.2.2.2 in_P hF.2.2.2.1 hK hP 0 rfl rfl 2 (by decide) (hF.2.2.2.2 _ fl_P_23) (fun _ h9 => h9) rfl d_P_types_27 ?_
      refine lv_iload hx hb d_P_types_30 (lv_at hl 0 rfl) ?_
      refine go_i (wr := [(p0, .inr (0, [.ref ha, .ref s0, .ref q0]))]) (run_VN hF G.1 (c_Q_add g l _ q0 b v cp ml a xs ht (by8 w x) hx40) k_Q_add j_P_93 se_Q_Q_add (va_recv hK hP (ci := 2) (q0 := 1) rfl rfl) (cw_down G hP hD hS hA [1, 2, 3] rfl rfl) ⟨Nat.le_of_ble_eq_true rfl, Nat.le_of_ble_eq_true rfl⟩ rfl hl.1 (Nat.le_of_ble_eq_true rfl) d_P_types_32 ⟨(by first | exact Nat.le_of_ble_eq_true rfl | (dsimp only; omega) | omega), (by first | exact Nat.le_of_ble_eq_true rfl | (dsimp only; omega) | omega)⟩) hP hD hS hA [1, 2, 3] [0] rfl rfl rfl (by decide) (fun r_3 w1 H locs hp hP hD hS => ?_)
      obtain ⟨v_4, cp_4, ml_4, f_4, rfl, ht_4, h40_4, rfl⟩ := hp
      have hP : va_P (gD g) classes [(p0, .inr (0, [.ref ha, .ref s0, .ref q0])), (q0, .inr (2, [.ref b])), (b, .inr (3, [.ref v_4, .int 0, .int ml_4, .int (nI (zt_Q_add xs (by8 w x)).1.length)])), (v_4, .inl (gB g, cp_4, .inl f_4))] H := hP
      have hD : va_D A [(p0, .inr (0, [.ref ha, .ref s0, .ref q0])), (q0, .inr (2, [.ref b])), (b, .inr (3, [.ref v_4, .int 0, .int ml_4, .int (nI (zt_Q_add xs (by8 w x)).1.length)])), (v_4, .inl (gB g, cp_4, .inl f_4))] := hD
      refine lv_istore (lv' := [(5, .int (zt_Q_add xs (by8 w x)).2), (4, .int (by8 w x)), (3, .int x), (0, .ref p0), (1, .long w)]) hx hb d_P_types_35 hl (by decide) rfl (fun ls hl => ?_)
      refine lv_iload hx hb d_P_types_37 (lv_at hl 0 rfl) ?_
      refine lv_if_ge (tgt := 45) hx hb d_P_types_39 (by decide) (fun c_5 => ?_) (fun c_5 => ?_)
      · skip
        refine lv_iinc (v := (x + (-8))) (lv' := [(3, .int (x + (-8))), (5, .int (zt_Q_add xs (by8 w x)).2), (4, .int (by8 w x)), (0, .ref p0), (1, .long w)]) hx hb d_P_types_45 hl (k := 2) rfl (by first | rfl | decide) (by decide) rfl (fun ls hl => ?_)
        refine lv_goto (tgt := 3) hx hb d_P_types_48 (by decide) ?_
        exact ih (zt_Q_add xs (by8 w x)).1 _ _ _ _ ht_4 h40_4 _ _ _ (by omega) (by omega) (by rw [ex]; exact m_s8 n) (by rw [zg_P_types, ← ex, if_neg c_2, if_pos c_5] at hp1; exact hp1) _ _ (hP.sub (ws' := [(p0, .inr (0, [.ref ha, .ref s0, .ref q0])), (q0, .inr (2, [.ref b])), (b, .inr (3, [.ref v_4, .int 0, .int ml_4, .int (nI (zt_Q_add xs (by8 w x)).1.length)])), (v_4, .inl (gB g, cp_4, .inl f_4))]) [0, 1, 2, 3] rfl) (hD.sub (ws' := [(p0, .inr (0, [.ref ha, .ref s0, .ref q0])), (q0, .inr (2, [.ref b])), (b, .inr (3, [.ref v_4, .int 0, .int ml_4, .int (nI (zt_Q_add xs (by8 w x)).1.length)])), (v_4, .inl (gB g, cp_4, .inl f_4))]) [0, 1, 2, 3] rfl rfl) hS _ (lv_sub hl [0, 3, 4] rfl)
      · skip
        refine lv_iload hx hb d_P_types_42 (lv_at hl 0 rfl) ?_
        rw [zg_P_types, ← ex, if_neg c_2, if_neg c_5] at hp1
        exact ret_i hx hb hr hlk (hP.sub (ws' := [(p0, .inr (0, [.ref ha, .ref s0, .ref q0])), (q0, .inr (2, [.ref b])), (b, .inr (3, [.ref v_4, .int 0, .int ml_4, .int (nI (zt_Q_add xs (by8 w x)).1.length)])), (v_4, .inl (gB g, cp_4, .inl f_4))]) [0, 1, 2, 3] rfl) (hD.sub (ws' := [(p0, .inr (0, [.ref ha, .ref s0, .ref q0])), (q0, .inr (2, [.ref b])), (b, .inr (3, [.ref v_4, .int 0, .int ml_4, .int (nI (zt_Q_add xs (by8 w x)).1.length)])), (v_4, .inl (gB g, cp_4, .inl f_4))]) [0, 1, 2, 3] rfl rfl) hS (nar_i _) ⟨_, _, _, _, by rw [hp1], by rw [← hp1]; exact ht_4, by rw [← hp1]; exact h40_4, by rw [hp1]⟩ (by first | exact Nat.le_of_ble_eq_true rfl | (dsimp only; omega) | omega) (by first | exact Nat.le_of_ble_eq_true rfl | (dsimp only; omega) | omega) d_P_types_44
    · skip
      refine lv_iconst (v := 0) hx hb d_P_types_22 (by decide) ?_
      refine lv_goto (tgt := 35) hx hb d_P_types_23 (by decide) ?_
      refine lv_istore (lv' := [(5, .int 0), (4, .int (by8 w x)), (3, .int x), (0, .ref p0), (1, .long w)]) hx hb d_P_types_35 hl (by decide) rfl (fun ls hl => ?_)
      refine lv_iload hx hb d_P_types_37 (lv_at hl 0 rfl) ?_
      refine lv_if_ge (tgt := 45) hx hb d_P_types_39 (by decide) (fun c_6 => ?_) (fun c_6 => ?_)
      · skip
        refine lv_iinc (v := (x + (-8))) (lv' := [(3, .int (x + (-8))), (5, .int 0), (4, .int (by8 w x)), (0, .ref p0), (1, .long w)]) hx hb d_P_types_45 hl (k := 2) rfl (by first | rfl | decide) (by decide) rfl (fun ls hl => ?_)
        refine lv_goto (tgt := 3) hx hb d_P_types_48 (by decide) ?_
        exact ih xs _ _ _ _ ht hx40 _ _ _ (by omega) (by omega) (by rw [ex]; exact m_s8 n) (by rw [zg_P_types, ← ex, if_pos c_2] at hp1; exact hp1) _ _ (hP.sub (ws' := [(p0, .inr (0, [.ref ha, .ref s0, .ref q0])), (q0, .inr (2, [.ref b])), (b, .inr (3, [.ref v, .int 0, .int ml, .int (nI xs.length)])), (v, .inl (gB g, cp, .inl a))]) [0, 1, 2, 3] rfl) (hD.sub (ws' := [(p0, .inr (0, [.ref ha, .ref s0, .ref q0])), (q0, .inr (2, [.ref b])), (b, .inr (3, [.ref v, .int 0, .int ml, .int (nI xs.length)])), (v, .inl (gB g, cp, .inl a))]) [0, 1, 2, 3] rfl rfl) hS _ (lv_sub hl [0, 3, 4] rfl)
      · exact absurd c_6 (by decide)
set_option maxHeartbeats 4000000 in
set_option maxRecDepth 100000 in
theorem c_P_types (g : gT) (l : Launch) (sz : Nat) (p0 ha s0 : Nat) (q0 b v cp : Nat) (ml : Int32) (a : Nat → Int32) (xs : List Nat) (ht : tx xs cp a) (w : Int64) (hx40 : xs.length ≤ 40) : Mg g l y_P_types b_P_types 6 (some .int) 7 167 56 2016 [.ref p0, .long w] [(p0, .inr (0, [.ref ha, .ref s0, .ref q0])), (q0, .inr (2, [.ref b])), (b, .inr (3, [.ref v, .int 0, .int ml, .int (nI xs.length)])), (v, .inl (gB g, cp, .inl a))] sz (qI g (fun r w1 => ∃ (v' cp' : Nat) (ml' : Int32) (f : Nat → Int32), w1 = [(p0, .inr (0, [.ref ha, .ref s0, .ref q0])), (q0, .inr (2, [.ref b])), (b, .inr (3, [.ref v', .int 0, .int ml', .int (nI (zt_P_types xs w).1.length)])), (v', .inl (gB g, cp', .inl f))] ∧ tx (zt_P_types xs w).1 cp' f ∧ (zt_P_types xs w).1.length ≤ 40 ∧ r = (zt_P_types xs w).2)) := by
  refine mg_of (by decide) (Nat.le_of_ble_eq_true rfl) ?_
  intro p e s m below meth c ls A hx hb hF hr hlk hnm hA G hP hD hS hl
  have hl : lv_has ls 6 [(0, .ref p0), (1, .long w)] := hl
  refine lv_bipush (v := 56) hx hb d_P_types_0 (by decide) ?_
  refine lv_istore_n (lv' := [(3, .int 56), (0, .ref p0), (1, .long w)]) hx hb d_P_types_2 rfl hl (by decide) rfl (fun ls hl => ?_)
  exact lp_P_types p0 ha s0 q0 b w hx hb hF hr hlk hA G (zt_P_types xs w) 8 (by omega) xs v cp ml a ht hx40 0 0 56 (by omega) (by omega) (by decide) rfl _ _ hP hD hS ls hl
