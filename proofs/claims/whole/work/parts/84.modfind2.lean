theorem z_g_M_stands (xs ys : List Int32) (f : Nat) : ∀ d : Nat, zg_M_stands xs ys f d = 0 ∨ zg_M_stands xs ys f d = 1 := by
  intro d
  induction d with
  | zero => exact Or.inr rfl
  | succ d ih => rw [zg_M_stands]; exact z_ite ih (Or.inl rfl)
theorem z_M_stands (xs ys : List Int32) (f q : Nat) (bg : Int32) : f_M_stands xs ys f q bg = 0 ∨ f_M_stands xs ys f q bg = 1 := by
  unfold f_M_stands
  have h := z_g_M_stands xs ys f xs.length
  repeat' first | with_reducible refine z_ite ?_ ?_ | with_reducible exact h | with_reducible exact Or.inl rfl
def zg_M_named (ys : List Int32) (f q : Nat) : Nat → Int32
  | 0 => (-1)
  | d + 1 => if (f_M_stands (z_M_addName ([] : List Int32) (nI (25 - (d + 1)))) ys f q 0) = 0 then zg_M_named ys f q d else (nI (25 - (d + 1)))
set_option maxRecDepth 100000 in
theorem k_M_named : ck y_M_named b_M_named 4 (some .int) 2 (.instanceMethod y_M_named) := ⟨tk_of (List.mem_of_getElem? (i := 872) rfl) rfl, tk_of (List.mem_of_getElem? (i := 871) (by decide +kernel)) rfl, tk_of (List.mem_of_getElem? (i := 43) (by decide +kernel)) rfl, by decide +kernel⟩
theorem j_M_195 : Cond.methodLink R_M 195 y_M_stands ∈ tk := tk_of (List.mem_of_getElem? (i := 873) (by decide +kernel)) rfl
theorem se_M_M_stands : Cond.selects R_M y_M_stands y_M_stands ∈ tk := tk_of (List.mem_of_getElem? (i := 33) (by decide +kernel)) rfl
set_option maxHeartbeats 4000000 in
set_option maxRecDepth 100000 in
theorem lp_M_named {p : Program} {l : Launch} {e : Env} {s : State} {m : MethodId} {args : Array Value} {below : List Frame} {meth : Method} {c : Code} {g : gT} {A : Nat → Prop} (h0 a1 a2 a3 a4 : Nat) (n2 n3 : Int32) (ys : List Int32) (td : Nat → Int32) (hy : ty ys td) (f q : Nat) (hfq : f ≤ q) (hq : q ≤ ys.length) (hx : p.tables.exec = Jvm.exec) (hb : c.code = b_M_named) (hF : CallFix p m c b_M_named 4 s args tk R_M) (hr : meth.sig.returnType = some .int) (hlk : meth.locks = false) (hA : ∀ q, s.heap.size ≤ q → A q) (G : Gx g A s s.heap) (E : Int32) :
    ∀ (d : Nat) (xs : List Int32) (md : Nat → Int32) (hm : mt xs md) (x : Int32), d ≤ 25 → x = nI (25 - d) → zg_M_named ys f q d = E → ∀ (H : Heap) (locs : List Loc), va_P (gD g) classes [(h0, .inr (4, [.ref a1, .int (nI xs.length), .ref a2, .int n2, .ref a3, .ref a4, .int n3])), (a1, .inl (gI g, 200, .inl md)), (a2, .inl (gI g, 40, .inl td))] H → va_D A [(h0, .inr (4, [.ref a1, .int (nI xs.length), .ref a2, .int n2, .ref a3, .ref a4, .int n3])), (a1, .inl (gI g, 200, .inl md)), (a2, .inl (gI g, 40, .inl td))] → va_S A s.heap H locs → ∀ ls : Array Slot, lv_has ls 4 [(3, .int x), (0, .ref h0), (1, .int (nI f)), (2, .int (nI q))] → W p l e ({ frames := 4, cells := 0, slots := 0, locals := 87 }) s m args below meth c H locs 0 0 (MQ below (qI g (fun r w1 => r = E ∧ ∃ (xs' : List Int32) (md' : Nat → Int32), w1 = [(h0, .inr (4, [.ref a1, .int (nI xs'.length), .ref a2, .int n2, .ref a3, .ref a4, .int n3])), (a1, .inl (gI g, 200, .inl md')), (a2, .inl (gI g, 40, .inl td))] ∧ mt xs' md') A) args s 0 0 A) (F0 m 2 ls []) := by
  have hK := G.2.1
  have hN := G.1
  have hy1 := hy.1
  have hnil : ([] : List Int32).length = 0 := rfl
  intro d
  induction d with
  | zero =>
    intro xs md hm x hd ex hp1 H locs hP hD hS ls hl
    have hm1 := hm.1
    have hle : nI 25 ≤ x := by rw [ex]; exact nI_le (by omega) (by omega)
    refine lv_iload_n hx hb d_M_named_2 rfl (lv_at hl 0 rfl) ?_
    refine lv_bipush (v := 25) hx hb d_M_named_3 (by decide) ?_
    refine lv_icmp_ge (tgt := 36) hx hb d_M_named_5 (by decide) (fun c_1 => ?_) (fun c_1 => absurd hle c_1)
    refine lv_iconst (v := (-1)) hx hb d_M_named_36 (by decide) ?_
    exact ret_i hx hb hr hlk (hP.sub (ws' := [(h0, .inr (4, [.ref a1, .int (nI xs.length), .ref a2, .int n2, .ref a3, .ref a4, .int n3])), (a1, .inl (gI g, 200, .inl md)), (a2, .inl (gI g, 40, .inl td))]) [0, 1, 2] rfl) (hD.sub (ws' := [(h0, .inr (4, [.ref a1, .int (nI xs.length), .ref a2, .int n2, .ref a3, .ref a4, .int n3])), (a1, .inl (gI g, 200, .inl md)), (a2, .inl (gI g, 40, .inl td))]) [0, 1, 2] rfl rfl) hS (nar_i _) ⟨hp1, _, _, rfl, hm⟩ (by first | exact Nat.le_of_ble_eq_true rfl | (dsimp only; omega) | omega) (by first | exact Nat.le_of_ble_eq_true rfl | (dsimp only; omega) | omega) d_M_named_37
  | succ d ih =>
    intro xs md hm x hd ex hp1 H locs hP hD hS ls hl
    have hm1 := hm.1
    have hj : (25 - (d + 1)) < 25 := by omega
    have hlt : ¬ nI 25 ≤ x := by rw [ex]; exact nI_ge hj (by omega)
    refine lv_iload_n hx hb d_M_named_2 rfl (lv_at hl 0 rfl) ?_
    refine lv_bipush (v := 25) hx hb d_M_named_3 (by decide) ?_
    refine lv_icmp_ge (tgt := 36) hx hb d_M_named_5 (by decide) (fun c_1 => absurd c_1 hlt) (fun c_1 => ?_)
    refine lv_aload_n hx hb d_M_named_8 rfl (lv_at hl 1 rfl) ?_
    refine lv_iconst (v := 0) hx hb d_M_named_9 (by decide) ?_
    refine tp_i (show (0 : Int32) = (nI ([] : List Int32).length) from rfl) ?_
    refine va_put (D := gD g) (ci := 4) (v := .int (nI ([] : List Int32).length)) (ty := .int) (C := R_M) (T := F_M) (N := 7) hx hb hF.2.2.2.2 in_M t_M t_M_ok n_M hF.2.2.2.1 hK hP hD hS 0 rfl rfl 1 (by decide) (hF.2.2.2.2 _ fl_M_76) (fun _ h9 => h9) rfl (by decide +kernel) rfl rfl (Nat.le_of_ble_eq_true rfl) d_M_named_10 (fun H locs hP hD hS => ?_)
    have hP : va_P (gD g) classes [(h0, .inr (4, [.ref a1, .int (nI ([] : List Int32).length), .ref a2, .int n2, .ref a3, .ref a4, .int n3])), (a1, .inl (gI g, 200, .inl md)), (a2, .inl (gI g, 40, .inl td))] H := hP
    have hD : va_D A [(h0, .inr (4, [.ref a1, .int (nI ([] : List Int32).length), .ref a2, .int n2, .ref a3, .ref a4, .int n3])), (a1, .inl (gI g, 200, .inl md)), (a2, .inl (gI g, 40, .inl td))] := hD
    have hm0 := mt_nil md
    refine lv_aload_n hx hb d_M_named_13 rfl (lv_at hl 1 rfl) ?_
    refine lv_iload_n hx hb d_M_named_14 rfl (lv_at hl 0 rfl) ?_
    refine tp_i ex ?_
    refine go_v (wr := [(a2, .inl (gI g, 40, .inl td))]) (run_V hF (c_M_addName g l _ h0 a1 a2 a3 a4 n2 n3 ([] : List Int32) md hm0 (nI (25 - (d + 1))) (by omega)) k_M_addName j_M_110 se_M_M_addName (va_recv hK hP (ci := 4) (q0 := 0) rfl rfl) (cw_down G hP hD hS hA [0, 1] rfl rfl) ⟨Nat.le_of_ble_eq_true rfl, Nat.le_of_ble_eq_true rfl⟩ rfl hl.1 (Nat.le_of_ble_eq_true rfl) d_M_named_15 ⟨(by first | exact Nat.le_of_ble_eq_true rfl | (dsimp only; omega) | omega), (by first | exact Nat.le_of_ble_eq_true rfl | (dsimp only; omega) | omega)⟩) hP hD hS hA [0, 1] [2] rfl rfl rfl (by decide) (fun w1 H locs hp hP hD hS => ?_)
    obtain ⟨md_3, rfl, hm_3, hn_3, hn_3b⟩ := hp
    have hP : va_P (gD g) classes [(a2, .inl (gI g, 40, .inl td)), (h0, .inr (4, [.ref a1, .int (nI (z_M_addName ([] : List Int32) (nI (25 - (d + 1)))).length), .ref a2, .int n2, .ref a3, .ref a4, .int n3])), (a1, .inl (gI g, 200, .inl md_3))] H := hP
    have hD : va_D A [(a2, .inl (gI g, 40, .inl td)), (h0, .inr (4, [.ref a1, .int (nI (z_M_addName ([] : List Int32) (nI (25 - (d + 1)))).length), .ref a2, .int n2, .ref a3, .ref a4, .int n3])), (a1, .inl (gI g, 200, .inl md_3))] := hD
    refine lv_aload_n hx hb d_M_named_18 rfl (lv_at hl 1 rfl) ?_
    refine lv_iload_n hx hb d_M_named_19 rfl (lv_at hl 2 rfl) ?_
    refine lv_iload_n hx hb d_M_named_20 rfl (lv_at hl 3 rfl) ?_
    refine lv_iconst (v := 0) hx hb d_M_named_21 (by decide) ?_
    refine go_i (wr := []) (run_V hF (c_M_stands g l _ h0 a1 a2 a3 a4 n2 n3 (z_M_addName ([] : List Int32) (nI (25 - (d + 1)))) md_3 hm_3 ys td hy f q 0 hfq hq) k_M_stands j_M_195 se_M_M_stands (va_recv hK hP (ci := 4) (q0 := 1) rfl rfl) (cw_down G hP hD hS hA [1, 2, 0] rfl rfl) ⟨Nat.le_of_ble_eq_true rfl, Nat.le_of_ble_eq_true rfl⟩ rfl hl.1 (Nat.le_of_ble_eq_true rfl) d_M_named_22 ⟨(by first | exact Nat.le_of_ble_eq_true rfl | (dsimp only; omega) | omega), (by first | exact Nat.le_of_ble_eq_true rfl | (dsimp only; omega) | omega)⟩) hP hD hS hA [1, 2, 0] [] rfl rfl rfl (by decide) (fun r_4 w1 H locs hp hP hD hS => ?_)
    obtain ⟨rfl, rfl⟩ := hp
    have hP : va_P (gD g) classes [(h0, .inr (4, [.ref a1, .int (nI (z_M_addName ([] : List Int32) (nI (25 - (d + 1)))).length), .ref a2, .int n2, .ref a3, .ref a4, .int n3])), (a1, .inl (gI g, 200, .inl md_3)), (a2, .inl (gI g, 40, .inl td))] H := hP
    have hD : va_D A [(h0, .inr (4, [.ref a1, .int (nI (z_M_addName ([] : List Int32) (nI (25 - (d + 1)))).length), .ref a2, .int n2, .ref a3, .ref a4, .int n3])), (a1, .inl (gI g, 200, .inl md_3)), (a2, .inl (gI g, 40, .inl td))] := hD
    refine lv_if_eq (tgt := 30) hx hb d_M_named_25 (by decide) (fun c_5 => ?_) (fun c_5 => ?_)
    · skip
      refine lv_iinc (v := (x + 1)) (lv' := [(3, .int (x + 1)), (0, .ref h0), (1, .int (nI f)), (2, .int (nI q))]) hx hb d_M_named_30 hl (k := 0) rfl (by first | rfl | decide) (by decide) rfl (fun ls hl => ?_)
      refine lv_goto (tgt := 2) hx hb d_M_named_33 (by decide) ?_
      exact ih (z_M_addName ([] : List Int32) (nI (25 - (d + 1)))) md_3 hm_3 _ (by omega) (by rw [ex, nI_1]; congr 1; omega) (by rw [zg_M_named, if_pos c_5] at hp1; exact hp1) _ _ (hP.sub (ws' := [(h0, .inr (4, [.ref a1, .int (nI (z_M_addName ([] : List Int32) (nI (25 - (d + 1)))).length), .ref a2, .int n2, .ref a3, .ref a4, .int n3])), (a1, .inl (gI g, 200, .inl md_3)), (a2, .inl (gI g, 40, .inl td))]) [0, 1, 2] rfl) (hD.sub (ws' := [(h0, .inr (4, [.ref a1, .int (nI (z_M_addName ([] : List Int32) (nI (25 - (d + 1)))).length), .ref a2, .int n2, .ref a3, .ref a4, .int n3])), (a1, .inl (gI g, 200, .inl md_3)), (a2, .inl (gI g, 40, .inl td))]) [0, 1, 2] rfl rfl) hS _ (lv_sub hl [0, 1, 2, 3] rfl)
    · skip
      refine lv_iload_n hx hb d_M_named_28 rfl (lv_at hl 0 rfl) ?_
      rw [zg_M_named, if_neg c_5] at hp1
      exact ret_i hx hb hr hlk (hP.sub (ws' := [(h0, .inr (4, [.ref a1, .int (nI (z_M_addName ([] : List Int32) (nI (25 - (d + 1)))).length), .ref a2, .int n2, .ref a3, .ref a4, .int n3])), (a1, .inl (gI g, 200, .inl md_3)), (a2, .inl (gI g, 40, .inl td))]) [0, 1, 2] rfl) (hD.sub (ws' := [(h0, .inr (4, [.ref a1, .int (nI (z_M_addName ([] : List Int32) (nI (25 - (d + 1)))).length), .ref a2, .int n2, .ref a3, .ref a4, .int n3])), (a1, .inl (gI g, 200, .inl md_3)), (a2, .inl (gI g, 40, .inl td))]) [0, 1, 2] rfl rfl) hS (nar_i _) ⟨(ex.trans hp1), _, _, rfl, hm_3⟩ (by first | exact Nat.le_of_ble_eq_true rfl | (dsimp only; omega) | omega) (by first | exact Nat.le_of_ble_eq_true rfl | (dsimp only; omega) | omega) d_M_named_29
set_option maxHeartbeats 4000000 in
set_option maxRecDepth 100000 in
theorem c_M_named (g : gT) (l : Launch) (sz : Nat) (h0 a1 a2 a3 a4 : Nat) (n2 n3 : Int32) (xs : List Int32) (md : Nat → Int32) (hm : mt xs md) (ys : List Int32) (td : Nat → Int32) (hy : ty ys td) (f q : Nat) (hfq : f ≤ q) (hq : q ≤ ys.length) : Mg g l y_M_named b_M_named 4 (some .int) 4 87 0 0 [.ref h0, .int (nI f), .int (nI q)] [(h0, .inr (4, [.ref a1, .int (nI xs.length), .ref a2, .int n2, .ref a3, .ref a4, .int n3])), (a1, .inl (gI g, 200, .inl md)), (a2, .inl (gI g, 40, .inl td))] sz (qI g (fun r w1 => r = zg_M_named ys f q 25 ∧ ∃ (xs' : List Int32) (md' : Nat → Int32), w1 = [(h0, .inr (4, [.ref a1, .int (nI xs'.length), .ref a2, .int n2, .ref a3, .ref a4, .int n3])), (a1, .inl (gI g, 200, .inl md')), (a2, .inl (gI g, 40, .inl td))] ∧ mt xs' md')) := by
  refine mg_of (by decide) (Nat.le_of_ble_eq_true rfl) ?_
  intro p e s m below meth c ls A hx hb hF hr hlk hnm hA G hP hD hS hl
  have hK := G.2.1
  have hN := G.1
  have hl : lv_has ls 4 [(0, .ref h0), (1, .int (nI f)), (2, .int (nI q))] := hl
  have hm1 := hm.1
  have hy1 := hy.1
  refine lv_iconst (v := 0) hx hb d_M_named_0 (by decide) ?_
  refine lv_istore_n (lv' := [(3, .int 0), (0, .ref h0), (1, .int (nI f)), (2, .int (nI q))]) hx hb d_M_named_1 rfl hl (by decide) rfl (fun ls hl => ?_)
  exact lp_M_named h0 a1 a2 a3 a4 n2 n3 ys td hy f q hfq hq hx hb hF hr hlk hA G (zg_M_named ys f q 25) 25 xs md hm 0 (Nat.le_refl _) rfl rfl _ _ hP hD hS _ (lv_sub hl [0, 1, 2, 3] rfl)
def f_M_nested (ys : List Int32) (f q : Nat) : Int32 := (f_M_stands (z_M_one (z_M_addOwn ([] : List Int32) 11) 36) ys f q 1)
set_option maxRecDepth 100000 in
theorem k_M_nested : ck y_M_nested b_M_nested 3 (some .boolean) 2 (.instanceMethod y_M_nested) := ⟨tk_of (List.mem_of_getElem? (i := 880) rfl) rfl, tk_of (List.mem_of_getElem? (i := 879) (by decide +kernel)) rfl, tk_of (List.mem_of_getElem? (i := 43) (by decide +kernel)) rfl, by decide +kernel⟩
set_option maxHeartbeats 4000000 in
set_option maxRecDepth 100000 in
theorem c_M_nested (g : gT) (l : Launch) (sz : Nat) (h0 a1 a2 a3 a4 : Nat) (n2 n3 : Int32) (xs : List Int32) (md : Nat → Int32) (hm : mt xs md) (ys : List Int32) (td : Nat → Int32) (hy : ty ys td) (f q : Nat) (hfq : f ≤ q) (hq : q ≤ ys.length) : Mg g l y_M_nested b_M_nested 3 (some .boolean) 3 66 0 0 [.ref h0, .int (nI f), .int (nI q)] [(h0, .inr (4, [.ref a1, .int (nI xs.length), .ref a2, .int n2, .ref a3, .ref a4, .int n3])), (a1, .inl (gI g, 200, .inl md)), (a2, .inl (gI g, 40, .inl td))] sz (qI g (fun r w1 => r = f_M_nested ys f q ∧ ∃ (xs' : List Int32) (md' : Nat → Int32), w1 = [(h0, .inr (4, [.ref a1, .int (nI xs'.length), .ref a2, .int n2, .ref a3, .ref a4, .int n3])), (a1, .inl (gI g, 200, .inl md')), (a2, .inl (gI g, 40, .inl td))] ∧ mt xs' md')) := by
  refine mg_of (by decide) (Nat.le_of_ble_eq_true rfl) ?_
  intro p e s m below meth c ls A hx hb hF hr hlk hnm hA G hP hD hS hl
  have hK := G.2.1
  have hN := G.1
  have hl : lv_has ls 3 [(0, .ref h0), (1, .int (nI f)), (2, .int (nI q))] := hl
  have hm1 := hm.1
  have hy1 := hy.1
  have hnil : ([] : List Int32).length = 0 := rfl
  refine lv_aload_n hx hb d_M_nested_0 rfl (lv_at hl 0 rfl) ?_
  refine lv_iconst (v := 0) hx hb d_M_nested_1 (by decide) ?_
  refine tp_i (show (0 : Int32) = (nI ([] : List Int32).length) from rfl) ?_
  refine va_put (D := gD g) (ci := 4) (v := .int (nI ([] : List Int32).length)) (ty := .int) (C := R_M) (T := F_M) (N := 7) hx hb hF.2.2.2.2 in_M t_M t_M_ok n_M hF.2.2.2.1 hK hP hD hS 0 rfl rfl 1 (by decide) (hF.2.2.2.2 _ fl_M_76) (fun _ h9 => h9) rfl (by decide +kernel) rfl rfl (Nat.le_of_ble_eq_true rfl) d_M_nested_2 (fun H locs hP hD hS => ?_)
  have hP : va_P (gD g) classes [(h0, .inr (4, [.ref a1, .int (nI ([] : List Int32).length), .ref a2, .int n2, .ref a3, .ref a4, .int n3])), (a1, .inl (gI g, 200, .inl md)), (a2, .inl (gI g, 40, .inl td))] H := hP
  have hD : va_D A [(h0, .inr (4, [.ref a1, .int (nI ([] : List Int32).length), .ref a2, .int n2, .ref a3, .ref a4, .int n3])), (a1, .inl (gI g, 200, .inl md)), (a2, .inl (gI g, 40, .inl td))] := hD
  have hm0 := mt_nil md
  refine lv_aload_n hx hb d_M_nested_5 rfl (lv_at hl 0 rfl) ?_
  refine lv_bipush (v := 11) hx hb d_M_nested_6 (by decide) ?_
  refine go_v (wr := [(a2, .inl (gI g, 40, .inl td))]) (run_V hF (c_M_addOwn g l _ h0 a1 a2 a3 a4 n2 n3 ([] : List Int32) md hm0 11 (by omega)) k_M_addOwn j_M_99 se_M_M_addOwn (va_recv hK hP (ci := 4) (q0 := 0) rfl rfl) (cw_down G hP hD hS hA [0, 1] rfl rfl) ⟨Nat.le_of_ble_eq_true rfl, Nat.le_of_ble_eq_true rfl⟩ rfl hl.1 (Nat.le_of_ble_eq_true rfl) d_M_nested_8 ⟨(by first | exact Nat.le_of_ble_eq_true rfl | (dsimp only; omega) | omega), (by first | exact Nat.le_of_ble_eq_true rfl | (dsimp only; omega) | omega)⟩) hP hD hS hA [0, 1] [2] rfl rfl rfl (by decide) (fun w1 H locs hp hP hD hS => ?_)
  obtain ⟨md_2, rfl, hm_2, hn_2, hn_2b⟩ := hp
  have hP : va_P (gD g) classes [(a2, .inl (gI g, 40, .inl td)), (h0, .inr (4, [.ref a1, .int (nI (z_M_addOwn ([] : List Int32) 11).length), .ref a2, .int n2, .ref a3, .ref a4, .int n3])), (a1, .inl (gI g, 200, .inl md_2))] H := hP
  have hD : va_D A [(a2, .inl (gI g, 40, .inl td)), (h0, .inr (4, [.ref a1, .int (nI (z_M_addOwn ([] : List Int32) 11).length), .ref a2, .int n2, .ref a3, .ref a4, .int n3])), (a1, .inl (gI g, 200, .inl md_2))] := hD
  refine lv_aload_n hx hb d_M_nested_11 rfl (lv_at hl 0 rfl) ?_
  refine lv_bipush (v := 36) hx hb d_M_nested_12 (by decide) ?_
  refine go_v (wr := [(a2, .inl (gI g, 40, .inl td))]) (run_V hF (c_M_one g l _ h0 a1 a2 a3 a4 n2 n3 (z_M_addOwn ([] : List Int32) 11) md_2 hm_2 36 (by omega)) k_M_one j_M_79 se_M_M_one (va_recv hK hP (ci := 4) (q0 := 1) rfl rfl) (cw_down G hP hD hS hA [1, 2] rfl rfl) ⟨Nat.le_of_ble_eq_true rfl, Nat.le_of_ble_eq_true rfl⟩ rfl hl.1 (Nat.le_of_ble_eq_true rfl) d_M_nested_14 ⟨(by first | exact Nat.le_of_ble_eq_true rfl | (dsimp only; omega) | omega), (by first | exact Nat.le_of_ble_eq_true rfl | (dsimp only; omega) | omega)⟩) hP hD hS hA [1, 2] [0] rfl rfl rfl (by decide) (fun w1 H locs hp hP hD hS => ?_)
  obtain ⟨md_4, rfl, hm_4, hn_4, hn_4b⟩ := hp
  have hP : va_P (gD g) classes [(a2, .inl (gI g, 40, .inl td)), (h0, .inr (4, [.ref a1, .int (nI (z_M_one (z_M_addOwn ([] : List Int32) 11) 36).length), .ref a2, .int n2, .ref a3, .ref a4, .int n3])), (a1, .inl (gI g, 200, .inl md_4))] H := hP
  have hD : va_D A [(a2, .inl (gI g, 40, .inl td)), (h0, .inr (4, [.ref a1, .int (nI (z_M_one (z_M_addOwn ([] : List Int32) 11) 36).length), .ref a2, .int n2, .ref a3, .ref a4, .int n3])), (a1, .inl (gI g, 200, .inl md_4))] := hD
  refine lv_aload_n hx hb d_M_nested_17 rfl (lv_at hl 0 rfl) ?_
  refine lv_iload_n hx hb d_M_nested_18 rfl (lv_at hl 1 rfl) ?_
  refine lv_iload_n hx hb d_M_nested_19 rfl (lv_at hl 2 rfl) ?_
  refine lv_iconst (v := 1) hx hb d_M_nested_20 (by decide) ?_
  refine go_i (wr := []) (run_V hF (c_M_stands g l _ h0 a1 a2 a3 a4 n2 n3 (z_M_one (z_M_addOwn ([] : List Int32) 11) 36) md_4 hm_4 ys td hy f q 1 hfq hq) k_M_stands j_M_195 se_M_M_stands (va_recv hK hP (ci := 4) (q0 := 1) rfl rfl) (cw_down G hP hD hS hA [1, 2, 0] rfl rfl) ⟨Nat.le_of_ble_eq_true rfl, Nat.le_of_ble_eq_true rfl⟩ rfl hl.1 (Nat.le_of_ble_eq_true rfl) d_M_nested_21 ⟨(by first | exact Nat.le_of_ble_eq_true rfl | (dsimp only; omega) | omega), (by first | exact Nat.le_of_ble_eq_true rfl | (dsimp only; omega) | omega)⟩) hP hD hS hA [1, 2, 0] [] rfl rfl rfl (by decide) (fun r_5 w1 H locs hp hP hD hS => ?_)
  obtain ⟨rfl, rfl⟩ := hp
  have hP : va_P (gD g) classes [(h0, .inr (4, [.ref a1, .int (nI (z_M_one (z_M_addOwn ([] : List Int32) 11) 36).length), .ref a2, .int n2, .ref a3, .ref a4, .int n3])), (a1, .inl (gI g, 200, .inl md_4)), (a2, .inl (gI g, 40, .inl td))] H := hP
  have hD : va_D A [(h0, .inr (4, [.ref a1, .int (nI (z_M_one (z_M_addOwn ([] : List Int32) 11) 36).length), .ref a2, .int n2, .ref a3, .ref a4, .int n3])), (a1, .inl (gI g, 200, .inl md_4)), (a2, .inl (gI g, 40, .inl td))] := hD
  exact ret_i hx hb hr hlk (hP.sub (ws' := [(h0, .inr (4, [.ref a1, .int (nI (z_M_one (z_M_addOwn ([] : List Int32) 11) 36).length), .ref a2, .int n2, .ref a3, .ref a4, .int n3])), (a1, .inl (gI g, 200, .inl md_4)), (a2, .inl (gI g, 40, .inl td))]) [0, 1, 2] rfl) (hD.sub (ws' := [(h0, .inr (4, [.ref a1, .int (nI (z_M_one (z_M_addOwn ([] : List Int32) 11) 36).length), .ref a2, .int n2, .ref a3, .ref a4, .int n3])), (a1, .inl (gI g, 200, .inl md_4)), (a2, .inl (gI g, 40, .inl td))]) [0, 1, 2] rfl rfl) hS (nar_z (z_M_stands _ _ _ _ _)) ⟨rfl, _, _, rfl, hm_4⟩ (by first | exact Nat.le_of_ble_eq_true rfl | (dsimp only; omega) | omega) (by first | exact Nat.le_of_ble_eq_true rfl | (dsimp only; omega) | omega) d_M_nested_24
