def zg_M_stands (xs ys : List Int32) (f : Nat) : Nat → Int32
  | 0 => 1
  | d + 1 => if (ys.getD (f + (xs.length - (d + 1))) 0) = (xs.getD (xs.length - (d + 1)) 0) then zg_M_stands xs ys f d else 0
set_option maxRecDepth 100000 in
theorem k_M_stands : ck y_M_stands b_M_stands 5 (some .boolean) 3 (.instanceMethod y_M_stands) := ⟨tk_of (List.mem_of_getElem? (i := 876) rfl) rfl, tk_of (List.mem_of_getElem? (i := 875) (by decide +kernel)) rfl, tk_of (List.mem_of_getElem? (i := 43) (by decide +kernel)) rfl, by decide +kernel⟩
set_option maxHeartbeats 4000000 in
set_option maxRecDepth 100000 in
theorem lp_M_stands {p : Program} {l : Launch} {e : Env} {s : State} {m : MethodId} {args : Array Value} {below : List Frame} {meth : Method} {c : Code} {g : gT} {A : Nat → Prop} (h0 a1 a2 a3 a4 : Nat) (n2 n3 : Int32) (xs : List Int32) (md : Nat → Int32) (hm : mt xs md) (ys : List Int32) (td : Nat → Int32) (hy : ty ys td) (f q : Nat) (hfl : f + xs.length ≤ q) (hq : q ≤ ys.length) (hx : p.tables.exec = Jvm.exec) (hb : c.code = b_M_stands) (hF : CallFix p m c b_M_stands 5 s args tk R_M) (hr : meth.sig.returnType = some .boolean) (hlk : meth.locks = false) (hA : ∀ q, s.heap.size ≤ q → A q) (G : Gx g A s s.heap) (E : Int32) :
    ∀ (d : Nat) (x : Int32), d ≤ xs.length → x = nI (xs.length - d) → zg_M_stands xs ys f d = E → ∀ (H : Heap) (locs : List Loc), va_P (gD g) classes [(h0, .inr (4, [.ref a1, .int (nI xs.length), .ref a2, .int n2, .ref a3, .ref a4, .int n3])), (a1, .inl (gI g, 200, .inl md)), (a2, .inl (gI g, 40, .inl td))] H → va_D A [(h0, .inr (4, [.ref a1, .int (nI xs.length), .ref a2, .int n2, .ref a3, .ref a4, .int n3])), (a1, .inl (gI g, 200, .inl md)), (a2, .inl (gI g, 40, .inl td))] → va_S A s.heap H locs → ∀ ls : Array Slot, lv_has ls 5 [(4, .int x), (0, .ref h0), (1, .int (nI f))] → W p l e ({ frames := 0, cells := 0, slots := 0, locals := 0 }) s m args below meth c H locs 0 0 (MQ below (qI g (fun r w1 => r = E ∧ w1 = [(h0, .inr (4, [.ref a1, .int (nI xs.length), .ref a2, .int n2, .ref a3, .ref a4, .int n3])), (a1, .inl (gI g, 200, .inl md)), (a2, .inl (gI g, 40, .inl td))]) A) args s 0 0 A) (F0 m 32 ls []) := by
  have hK := G.2.1
  have hN := G.1
  have hy1 := hy.1
  
  intro d
  induction d with
  | zero =>
    intro x hd ex hp1 H locs hP hD hS ls hl
    have hm1 := hm.1
    have hle : nI xs.length ≤ x := by rw [ex]; exact nI_le (by omega) (by omega)
    refine lv_iload hx hb d_M_stands_32 (lv_at hl 0 rfl) ?_
    refine lv_aload_n hx hb d_M_stands_34 rfl (lv_at hl 1 rfl) ?_
    refine va_get (D := gD g) (ci := 4) (v := .int (nI xs.length)) (C := R_M) (T := F_M) (N := 7) hx hb hF.2.2.2.2 in_M hF.2.2.2.1 hK hP 0 rfl rfl 1 (by decide) (hF.2.2.2.2 _ fl_M_76) (fun _ h9 => h9) rfl d_M_stands_35 ?_
    refine lv_icmp_ge (tgt := 68) hx hb d_M_stands_38 (by decide) (fun c_1 => ?_) (fun c_1 => absurd hle c_1)
    refine lv_iconst (v := 1) hx hb d_M_stands_68 (by decide) ?_
    exact ret_i hx hb hr hlk (hP.sub (ws' := [(h0, .inr (4, [.ref a1, .int (nI xs.length), .ref a2, .int n2, .ref a3, .ref a4, .int n3])), (a1, .inl (gI g, 200, .inl md)), (a2, .inl (gI g, 40, .inl td))]) [0, 1, 2] rfl) (hD.sub (ws' := [(h0, .inr (4, [.ref a1, .int (nI xs.length), .ref a2, .int n2, .ref a3, .ref a4, .int n3])), (a1, .inl (gI g, 200, .inl md)), (a2, .inl (gI g, 40, .inl td))]) [0, 1, 2] rfl rfl) hS (by decide) ⟨hp1, rfl⟩ (by first | exact Nat.le_of_ble_eq_true rfl | (dsimp only; omega) | omega) (by first | exact Nat.le_of_ble_eq_true rfl | (dsimp only; omega) | omega) d_M_stands_69
  | succ d ih =>
    intro x hd ex hp1 H locs hP hD hS ls hl
    have hm1 := hm.1
    have hj : (xs.length - (d + 1)) < xs.length := by omega
    have hlt : ¬ nI xs.length ≤ x := by rw [ex]; exact nI_ge hj (by omega)
    refine lv_iload hx hb d_M_stands_32 (lv_at hl 0 rfl) ?_
    refine lv_aload_n hx hb d_M_stands_34 rfl (lv_at hl 1 rfl) ?_
    refine va_get (D := gD g) (ci := 4) (v := .int (nI xs.length)) (C := R_M) (T := F_M) (N := 7) hx hb hF.2.2.2.2 in_M hF.2.2.2.1 hK hP 0 rfl rfl 1 (by decide) (hF.2.2.2.2 _ fl_M_76) (fun _ h9 => h9) rfl d_M_stands_35 ?_
    refine lv_icmp_ge (tgt := 68) hx hb d_M_stands_38 (by decide) (fun c_1 => absurd c_1 hlt) (fun c_1 => ?_)
    refine lv_aload_n hx hb d_M_stands_41 rfl (lv_at hl 1 rfl) ?_
    refine va_get (D := gD g) (ci := 4) (v := .ref a2) (C := R_M) (T := F_M) (N := 7) hx hb hF.2.2.2.2 in_M hF.2.2.2.1 hK hP 0 rfl rfl 2 (by decide) (hF.2.2.2.2 _ fl_M_13) (fun _ h9 => h9) rfl d_M_stands_42 ?_
    refine lv_iload_n hx hb d_M_stands_45 rfl (lv_at hl 2 rfl) ?_
    refine lv_iload hx hb d_M_stands_46 (lv_at hl 0 rfl) ?_
    refine tp_i ex ?_
    refine lv_iadd hx hb d_M_stands_48 ?_
    refine tp_i (nI_add f (xs.length - (d + 1))) ?_
    refine va_iald hx hb hK hP 2 0 rfl rfl (vp_in_nI (n := (f + (xs.length - (d + 1)))) (N := 40) (by omega) (by decide)) d_M_stands_49 ?_
    refine tp_i (show td (nI (f + (xs.length - (d + 1)))).toNatClampNeg = ys.getD (f + (xs.length - (d + 1))) 0 by rw [nI_clamp (by omega)]; exact hy.2 _ (by omega)) ?_
    refine lv_aload_n hx hb d_M_stands_50 rfl (lv_at hl 1 rfl) ?_
    refine va_get (D := gD g) (ci := 4) (v := .ref a1) (C := R_M) (T := F_M) (N := 7) hx hb hF.2.2.2.2 in_M hF.2.2.2.1 hK hP 0 rfl rfl 0 (by decide) (hF.2.2.2.2 _ fl_M_7) (fun _ h9 => h9) rfl d_M_stands_51 ?_
    refine lv_iload hx hb d_M_stands_54 (lv_at hl 0 rfl) ?_
    refine tp_i ex ?_
    refine va_iald hx hb hK hP 1 0 rfl rfl (vp_in_nI (n := (xs.length - (d + 1))) (N := 200) (by omega) (by decide)) d_M_stands_56 ?_
    refine tp_i (show md (nI (xs.length - (d + 1))).toNatClampNeg = xs.getD (xs.length - (d + 1)) 0 by rw [nI_clamp (by omega)]; exact hm.2 _ (by omega)) ?_
    refine lv_icmp_eq (tgt := 62) hx hb d_M_stands_57 (by decide) (fun c_2 => ?_) (fun c_2 => ?_)
    · skip
      refine lv_iinc (v := (x + 1)) (lv' := [(4, .int (x + 1)), (0, .ref h0), (1, .int (nI f))]) hx hb d_M_stands_62 hl (k := 0) rfl (by first | rfl | decide) (by decide) rfl (fun ls hl => ?_)
      refine lv_goto (tgt := 32) hx hb d_M_stands_65 (by decide) ?_
      exact ih _ (by omega) (by rw [ex, nI_1]; congr 1; omega) (by rw [zg_M_stands, if_pos c_2] at hp1; exact hp1) _ _ (hP.sub (ws' := [(h0, .inr (4, [.ref a1, .int (nI xs.length), .ref a2, .int n2, .ref a3, .ref a4, .int n3])), (a1, .inl (gI g, 200, .inl md)), (a2, .inl (gI g, 40, .inl td))]) [0, 1, 2] rfl) (hD.sub (ws' := [(h0, .inr (4, [.ref a1, .int (nI xs.length), .ref a2, .int n2, .ref a3, .ref a4, .int n3])), (a1, .inl (gI g, 200, .inl md)), (a2, .inl (gI g, 40, .inl td))]) [0, 1, 2] rfl rfl) hS _ (lv_sub hl [0, 1, 2] rfl)
    · skip
      refine lv_iconst (v := 0) hx hb d_M_stands_60 (by decide) ?_
      rw [zg_M_stands, if_neg c_2] at hp1
      exact ret_i hx hb hr hlk (hP.sub (ws' := [(h0, .inr (4, [.ref a1, .int (nI xs.length), .ref a2, .int n2, .ref a3, .ref a4, .int n3])), (a1, .inl (gI g, 200, .inl md)), (a2, .inl (gI g, 40, .inl td))]) [0, 1, 2] rfl) (hD.sub (ws' := [(h0, .inr (4, [.ref a1, .int (nI xs.length), .ref a2, .int n2, .ref a3, .ref a4, .int n3])), (a1, .inl (gI g, 200, .inl md)), (a2, .inl (gI g, 40, .inl td))]) [0, 1, 2] rfl rfl) hS (by decide) ⟨hp1, rfl⟩ (by first | exact Nat.le_of_ble_eq_true rfl | (dsimp only; omega) | omega) (by first | exact Nat.le_of_ble_eq_true rfl | (dsimp only; omega) | omega) d_M_stands_61
def f_M_stands (xs ys : List Int32) (f q : Nat) (bg : Int32) : Int32 := (if bg = 0 then (if (nI xs.length) = (nI (q - f)) then (zg_M_stands xs ys f xs.length) else 0) else (if (nI xs.length) ≤ (nI (q - f)) then (zg_M_stands xs ys f xs.length) else 0))
set_option maxHeartbeats 4000000 in
set_option maxRecDepth 100000 in
theorem c_M_stands (g : gT) (l : Launch) (sz : Nat) (h0 a1 a2 a3 a4 : Nat) (n2 n3 : Int32) (xs : List Int32) (md : Nat → Int32) (hm : mt xs md) (ys : List Int32) (td : Nat → Int32) (hy : ty ys td) (f q : Nat) (bg : Int32) (hfq : f ≤ q) (hq : q ≤ ys.length) : Mg g l y_M_stands b_M_stands 5 (some .boolean) 0 0 0 0 [.ref h0, .int (nI f), .int (nI q), .int bg] [(h0, .inr (4, [.ref a1, .int (nI xs.length), .ref a2, .int n2, .ref a3, .ref a4, .int n3])), (a1, .inl (gI g, 200, .inl md)), (a2, .inl (gI g, 40, .inl td))] sz (qI g (fun r w1 => r = f_M_stands xs ys f q bg ∧ w1 = [(h0, .inr (4, [.ref a1, .int (nI xs.length), .ref a2, .int n2, .ref a3, .ref a4, .int n3])), (a1, .inl (gI g, 200, .inl md)), (a2, .inl (gI g, 40, .inl td))])) := by
  refine mg_of (by decide) (Nat.le_of_ble_eq_true rfl) ?_
  intro p e s m below meth c ls A hx hb hF hr hlk hnm hA G hP hD hS hl
  have hK := G.2.1
  have hN := G.1
  have hl : lv_has ls 5 [(0, .ref h0), (1, .int (nI f)), (2, .int (nI q)), (3, .int bg)] := hl
  have hm1 := hm.1
  have hy1 := hy.1
  refine lv_iload_n hx hb d_M_stands_0 rfl (lv_at hl 3 rfl) ?_
  refine lv_if_eq (tgt := 17) hx hb d_M_stands_1 (by decide) (fun c_1 => ?_) (fun c_1 => ?_)
  · skip
    refine lv_aload_n hx hb d_M_stands_17 rfl (lv_at hl 0 rfl) ?_
    refine va_get (D := gD g) (ci := 4) (v := .int (nI xs.length)) (C := R_M) (T := F_M) (N := 7) hx hb hF.2.2.2.2 in_M hF.2.2.2.1 hK hP 0 rfl rfl 1 (by decide) (hF.2.2.2.2 _ fl_M_76) (fun _ h9 => h9) rfl d_M_stands_18 ?_
    refine lv_iload_n hx hb d_M_stands_21 rfl (lv_at hl 2 rfl) ?_
    refine lv_iload_n hx hb d_M_stands_22 rfl (lv_at hl 1 rfl) ?_
    refine lv_isub hx hb d_M_stands_23 ?_
    refine tp_i (show ((nI q) - (nI f)) = (nI (q - f)) from pk_sub hfq) ?_
    refine lv_icmp_eq (tgt := 29) hx hb d_M_stands_24 (by decide) (fun c_2 => ?_) (fun c_2 => ?_)
    · skip
      have hfl : f + xs.length ≤ q := by have := Nat.le_of_eq ((nI_eq (a := xs.length) (b := q - f) (by omega) (by omega)).mp c_2); omega
      refine lv_iconst (v := 0) hx hb d_M_stands_29 (by decide) ?_
      refine lv_istore (lv' := [(4, .int 0), (0, .ref h0), (1, .int (nI f)), (2, .int (nI q)), (3, .int bg)]) hx hb d_M_stands_30 hl (by decide) rfl (fun ls hl => ?_)
      exact lp_M_stands h0 a1 a2 a3 a4 n2 n3 xs md hm ys td hy f q hfl hq hx hb hF hr hlk hA G (f_M_stands xs ys f q bg) xs.length 0 (Nat.le_refl _) (by rw [Nat.sub_self]; rfl) (by rw [f_M_stands, if_pos c_1, if_pos c_2]) _ _ (hP.sub (ws' := [(h0, .inr (4, [.ref a1, .int (nI xs.length), .ref a2, .int n2, .ref a3, .ref a4, .int n3])), (a1, .inl (gI g, 200, .inl md)), (a2, .inl (gI g, 40, .inl td))]) [0, 1, 2] rfl) (hD.sub (ws' := [(h0, .inr (4, [.ref a1, .int (nI xs.length), .ref a2, .int n2, .ref a3, .ref a4, .int n3])), (a1, .inl (gI g, 200, .inl md)), (a2, .inl (gI g, 40, .inl td))]) [0, 1, 2] rfl rfl) hS _ (lv_sub hl [0, 1, 2] rfl)
    · skip
      refine lv_iconst (v := 0) hx hb d_M_stands_27 (by decide) ?_
      exact ret_i hx hb hr hlk (hP.sub (ws' := [(h0, .inr (4, [.ref a1, .int (nI xs.length), .ref a2, .int n2, .ref a3, .ref a4, .int n3])), (a1, .inl (gI g, 200, .inl md)), (a2, .inl (gI g, 40, .inl td))]) [0, 1, 2] rfl) (hD.sub (ws' := [(h0, .inr (4, [.ref a1, .int (nI xs.length), .ref a2, .int n2, .ref a3, .ref a4, .int n3])), (a1, .inl (gI g, 200, .inl md)), (a2, .inl (gI g, 40, .inl td))]) [0, 1, 2] rfl rfl) hS (by decide) ⟨by rw [f_M_stands, if_pos c_1, if_neg c_2], rfl⟩ (by first | exact Nat.le_of_ble_eq_true rfl | (dsimp only; omega) | omega) (by first | exact Nat.le_of_ble_eq_true rfl | (dsimp only; omega) | omega) d_M_stands_28
  · skip
    refine lv_aload_n hx hb d_M_stands_4 rfl (lv_at hl 0 rfl) ?_
    refine va_get (D := gD g) (ci := 4) (v := .int (nI xs.length)) (C := R_M) (T := F_M) (N := 7) hx hb hF.2.2.2.2 in_M hF.2.2.2.1 hK hP 0 rfl rfl 1 (by decide) (hF.2.2.2.2 _ fl_M_76) (fun _ h9 => h9) rfl d_M_stands_5 ?_
    refine lv_iload_n hx hb d_M_stands_8 rfl (lv_at hl 2 rfl) ?_
    refine lv_iload_n hx hb d_M_stands_9 rfl (lv_at hl 1 rfl) ?_
    refine lv_isub hx hb d_M_stands_10 ?_
    refine tp_i (show ((nI q) - (nI f)) = (nI (q - f)) from pk_sub hfq) ?_
    refine lv_icmp_le (tgt := 29) hx hb d_M_stands_11 (by decide) (fun c_3 => ?_) (fun c_3 => ?_)
    · skip
      have hfl : f + xs.length ≤ q := by have := (nI_leI (a := xs.length) (b := q - f) (by omega) (by omega)).mp c_3; omega
      refine lv_iconst (v := 0) hx hb d_M_stands_29 (by decide) ?_
      refine lv_istore (lv' := [(4, .int 0), (0, .ref h0), (1, .int (nI f)), (2, .int (nI q)), (3, .int bg)]) hx hb d_M_stands_30 hl (by decide) rfl (fun ls hl => ?_)
      exact lp_M_stands h0 a1 a2 a3 a4 n2 n3 xs md hm ys td hy f q hfl hq hx hb hF hr hlk hA G (f_M_stands xs ys f q bg) xs.length 0 (Nat.le_refl _) (by rw [Nat.sub_self]; rfl) (by rw [f_M_stands, if_neg c_1, if_pos c_3]) _ _ (hP.sub (ws' := [(h0, .inr (4, [.ref a1, .int (nI xs.length), .ref a2, .int n2, .ref a3, .ref a4, .int n3])), (a1, .inl (gI g, 200, .inl md)), (a2, .inl (gI g, 40, .inl td))]) [0, 1, 2] rfl) (hD.sub (ws' := [(h0, .inr (4, [.ref a1, .int (nI xs.length), .ref a2, .int n2, .ref a3, .ref a4, .int n3])), (a1, .inl (gI g, 200, .inl md)), (a2, .inl (gI g, 40, .inl td))]) [0, 1, 2] rfl rfl) hS _ (lv_sub hl [0, 1, 2] rfl)
    · skip
      refine lv_goto (tgt := 27) hx hb d_M_stands_14 (by decide) ?_
      refine lv_iconst (v := 0) hx hb d_M_stands_27 (by decide) ?_
      exact ret_i hx hb hr hlk (hP.sub (ws' := [(h0, .inr (4, [.ref a1, .int (nI xs.length), .ref a2, .int n2, .ref a3, .ref a4, .int n3])), (a1, .inl (gI g, 200, .inl md)), (a2, .inl (gI g, 40, .inl td))]) [0, 1, 2] rfl) (hD.sub (ws' := [(h0, .inr (4, [.ref a1, .int (nI xs.length), .ref a2, .int n2, .ref a3, .ref a4, .int n3])), (a1, .inl (gI g, 200, .inl md)), (a2, .inl (gI g, 40, .inl td))]) [0, 1, 2] rfl rfl) hS (by decide) ⟨by rw [f_M_stands, if_neg c_1, if_neg c_3], rfl⟩ (by first | exact Nat.le_of_ble_eq_true rfl | (dsimp only; omega) | omega) (by first | exact Nat.le_of_ble_eq_true rfl | (dsimp only; omega) | omega) d_M_stands_28
