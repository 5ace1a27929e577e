def zg_Q_standsAt (xs : List Nat) (i f : Nat) : Nat → Int32
  | 0 => 1
  | d + 1 => if (nI (xs.getD (f + ((li_x i).length - (d + 1))) 0)) = (nI ((li_x i).getD ((li_x i).length - (d + 1)) 0)) then zg_Q_standsAt xs i f d else 0
set_option maxRecDepth 100000 in
theorem k_Q_standsAt : ck y_Q_standsAt b_Q_standsAt 5 (some .boolean) 3 (.instanceMethod y_Q_standsAt) := ⟨tk_of (List.mem_of_getElem? (i := 570) rfl) rfl, tk_of (List.mem_of_getElem? (i := 569) (by decide +kernel)) rfl, tk_of (List.mem_of_getElem? (i := 42) (by decide +kernel)) rfl, by decide +kernel⟩
theorem j_Q_51 : Cond.methodLink R_Q 51 y_St_length ∈ tk := tk_of (List.mem_of_getElem? (i := 566) (by decide +kernel)) rfl
theorem j_Q_73 : Cond.methodLink R_Q 73 y_St_charAt ∈ tk := tk_of (List.mem_of_getElem? (i := 571) (by decide +kernel)) rfl
set_option maxHeartbeats 4000000 in
set_option maxRecDepth 100000 in
theorem lp_Q_standsAt {p : Program} {l : Launch} {e : Env} {s : State} {m : MethodId} {args : Array Value} {below : List Frame} {meth : Method} {c : Code} {g : gT} {A : Nat → Prop} (q0 b v cp : Nat) (ml : Int32) (a : Nat → Int32) (xs : List Nat) (ht : tx xs cp a) (i f q : Nat) (hi : i < 41) (hfl : f + (li_x i).length ≤ q) (hq : q ≤ xs.length) (hx : p.tables.exec = Jvm.exec) (hb : c.code = b_Q_standsAt) (hF : CallFix p m c b_Q_standsAt 5 s args tk R_Q) (hr : meth.sig.returnType = some .boolean) (hlk : meth.locks = false) (hA : ∀ q, s.heap.size ≤ q → A q) (G : Gx g A s s.heap) (E : Int32) :
    ∀ (d : Nat) (x : Int32), d ≤ (li_x i).length → x = nI ((li_x i).length - d) → zg_Q_standsAt xs i f d = E → ∀ (H : Heap) (locs : List Loc), va_P (gD g) classes [(q0, .inr (2, [.ref b])), (b, .inr (3, [.ref v, .int 0, .int ml, .int (nI xs.length)])), (v, .inl (gB g, cp, .inl a))] H → va_D A [(q0, .inr (2, [.ref b])), (b, .inr (3, [.ref v, .int 0, .int ml, .int (nI xs.length)])), (v, .inl (gB g, cp, .inl a))] → va_S A s.heap H locs → ∀ ls : Array Slot, lv_has ls 5 [(4, .int x), (0, .ref q0), (1, .ref (gK g i)), (2, .int (nI f))] → W p l e ({ frames := 4, cells := 0, slots := 0, locals := 88 }) s m args below meth c H locs 0 0 (MQ below (qI g (fun r w1 => r = E ∧ w1 = [(q0, .inr (2, [.ref b])), (b, .inr (3, [.ref v, .int 0, .int ml, .int (nI xs.length)])), (v, .inl (gB g, cp, .inl a))]) A) args s 0 0 A) (F0 m 15 ls []) := by
  have hK := G.2.1
  have hN := G.1
  have ht1 := ht.1
  have ht2 := ht.2.1
  have ht3 := ht.2.2.1
  have h21 := li_40 i hi
  intro d
  induction d with
  | zero =>
    intro x hd ex hp1 H locs hP hD hS ls hl
    have hle : nI (li_x i).length ≤ x := by rw [ex]; exact nI_le (by omega) (by omega)
    refine lv_iload hx hb d_Q_standsAt_15 (lv_at hl 0 rfl) ?_
    refine lv_aload_n hx hb d_Q_standsAt_17 rfl (lv_at hl 2 rfl) ?_
    refine go_i (wr := [(q0, .inr (2, [.ref b])), (b, .inr (3, [.ref v, .int 0, .int ml, .int (nI xs.length)])), (v, .inl (gB g, cp, .inl a))]) (run_V hF (c_St_length g l _ i hi) k_St_length j_Q_51 se_St_St_length (va_Orecv (G.2.2.2.1 i hi).1 hS) (cw_down G hP hD hS hA [] rfl rfl) ⟨Nat.le_of_ble_eq_true rfl, Nat.le_of_ble_eq_true rfl⟩ rfl hl.1 (Nat.le_of_ble_eq_true rfl) d_Q_standsAt_18 ⟨(by first | exact Nat.le_of_ble_eq_true rfl | (dsimp only; omega) | omega), (by first | exact Nat.le_of_ble_eq_true rfl | (dsimp only; omega) | omega)⟩) hP hD hS hA [] [0, 1, 2] rfl rfl rfl (by decide) (fun r_1 w1 H locs hp hP hD hS => ?_)
    obtain ⟨rfl, rfl⟩ := hp
    have hP : va_P (gD g) classes [(q0, .inr (2, [.ref b])), (b, .inr (3, [.ref v, .int 0, .int ml, .int (nI xs.length)])), (v, .inl (gB g, cp, .inl a))] H := hP
    have hD : va_D A [(q0, .inr (2, [.ref b])), (b, .inr (3, [.ref v, .int 0, .int ml, .int (nI xs.length)])), (v, .inl (gB g, cp, .inl a))] := hD
    refine lv_icmp_ge (tgt := 52) hx hb d_Q_standsAt_21 (by decide) (fun c_2 => ?_) (fun c_2 => absurd hle c_2)
    refine lv_iconst (v := 1) hx hb d_Q_standsAt_52 (by decide) ?_
    exact ret_i hx hb hr hlk (hP.sub (ws' := [(q0, .inr (2, [.ref b])), (b, .inr (3, [.ref v, .int 0, .int ml, .int (nI xs.length)])), (v, .inl (gB g, cp, .inl a))]) [0, 1, 2] rfl) (hD.sub (ws' := [(q0, .inr (2, [.ref b])), (b, .inr (3, [.ref v, .int 0, .int ml, .int (nI xs.length)])), (v, .inl (gB g, cp, .inl a))]) [0, 1, 2] rfl rfl) hS (by decide) ⟨hp1, rfl⟩ (by first | exact Nat.le_of_ble_eq_true rfl | (dsimp only; omega) | omega) (by first | exact Nat.le_of_ble_eq_true rfl | (dsimp only; omega) | omega) d_Q_standsAt_53
  | succ d ih =>
    intro x hd ex hp1 H locs hP hD hS ls hl
    have hj : ((li_x i).length - (d + 1)) < (li_x i).length := by omega
    have hlt : ¬ nI (li_x i).length ≤ x := by rw [ex]; exact nI_ge hj (by omega)
    refine lv_iload hx hb d_Q_standsAt_15 (lv_at hl 0 rfl) ?_
    refine lv_aload_n hx hb d_Q_standsAt_17 rfl (lv_at hl 2 rfl) ?_
    refine go_i (wr := [(q0, .inr (2, [.ref b])), (b, .inr (3, [.ref v, .int 0, .int ml, .int (nI xs.length)])), (v, .inl (gB g, cp, .inl a))]) (run_V hF (c_St_length g l _ i hi) k_St_length j_Q_51 se_St_St_length (va_Orecv (G.2.2.2.1 i hi).1 hS) (cw_down G hP hD hS hA [] rfl rfl) ⟨Nat.le_of_ble_eq_true rfl, Nat.le_of_ble_eq_true rfl⟩ rfl hl.1 (Nat.le_of_ble_eq_true rfl) d_Q_standsAt_18 ⟨(by first | exact Nat.le_of_ble_eq_true rfl | (dsimp only; omega) | omega), (by first | exact Nat.le_of_ble_eq_true rfl | (dsimp only; omega) | omega)⟩) hP hD hS hA [] [0, 1, 2] rfl rfl rfl (by decide) (fun r_1 w1 H locs hp hP hD hS => ?_)
    obtain ⟨rfl, rfl⟩ := hp
    have hP : va_P (gD g) classes [(q0, .inr (2, [.ref b])), (b, .inr (3, [.ref v, .int 0, .int ml, .int (nI xs.length)])), (v, .inl (gB g, cp, .inl a))] H := hP
    have hD : va_D A [(q0, .inr (2, [.ref b])), (b, .inr (3, [.ref v, .int 0, .int ml, .int (nI xs.length)])), (v, .inl (gB g, cp, .inl a))] := hD
    refine lv_icmp_ge (tgt := 52) hx hb d_Q_standsAt_21 (by decide) (fun c_2 => absurd c_2 hlt) (fun c_2 => ?_)
    refine lv_aload_n hx hb d_Q_standsAt_24 rfl (lv_at hl 1 rfl) ?_
    refine va_get (D := gD g) (ci := 2) (v := .ref b) (C := R_Q) (T := F_Q) (N := 1) hx hb hF.2.2.2.2 in_Q hF.2.2.2.1 hK hP 0 rfl rfl 0 (by decide) (hF.2.2.2.2 _ fl_Q_12) (fun _ h9 => h9) rfl d_Q_standsAt_25 ?_
    refine lv_iload_n hx hb d_Q_standsAt_28 rfl (lv_at hl 3 rfl) ?_
    refine lv_iload hx hb d_Q_standsAt_29 (lv_at hl 0 rfl) ?_
    refine tp_i ex ?_
    refine lv_iadd hx hb d_Q_standsAt_31 ?_
    refine tp_i (nI_add f ((li_x i).length - (d + 1))) ?_
    refine go_i (wr := [(q0, .inr (2, [.ref b]))]) (run_V hF (c_SB_charAt g l _ b v cp ml a xs ht (f + ((li_x i).length - (d + 1))) (by omega)) k_SB_charAt j_Q_37 se_SB_SB_charAt (va_recv hK hP (ci := 3) (q0 := 1) rfl rfl) (cw_down G hP hD hS hA [1, 2] rfl rfl) ⟨Nat.le_of_ble_eq_true rfl, Nat.le_of_ble_eq_true rfl⟩ rfl hl.1 (Nat.le_of_ble_eq_true rfl) d_Q_standsAt_32 ⟨(by first | exact Nat.le_of_ble_eq_true rfl | (dsimp only; omega) | omega), (by first | exact Nat.le_of_ble_eq_true rfl | (dsimp only; omega) | omega)⟩) hP hD hS hA [1, 2] [0] rfl rfl rfl (by decide) (fun r_3 w1 H locs hp hP hD hS => ?_)
    obtain ⟨rfl, rfl⟩ := hp
    have hP : va_P (gD g) classes [(q0, .inr (2, [.ref b])), (b, .inr (3, [.ref v, .int 0, .int ml, .int (nI xs.length)])), (v, .inl (gB g, cp, .inl a))] H := hP
    have hD : va_D A [(q0, .inr (2, [.ref b])), (b, .inr (3, [.ref v, .int 0, .int ml, .int (nI xs.length)])), (v, .inl (gB g, cp, .inl a))] := hD
    refine lv_aload_n hx hb d_Q_standsAt_35 rfl (lv_at hl 2 rfl) ?_
    refine lv_iload hx hb d_Q_standsAt_36 (lv_at hl 0 rfl) ?_
    refine tp_i ex ?_
    refine go_i (wr := [(q0, .inr (2, [.ref b])), (b, .inr (3, [.ref v, .int 0, .int ml, .int (nI xs.length)])), (v, .inl (gB g, cp, .inl a))]) (run_V hF (c_St_charAt g l _ i hi ((li_x i).length - (d + 1)) hj) k_St_charAt j_Q_73 se_St_St_charAt (va_Orecv (G.2.2.2.1 i hi).1 hS) (cw_down G hP hD hS hA [] rfl rfl) ⟨Nat.le_of_ble_eq_true rfl, Nat.le_of_ble_eq_true rfl⟩ rfl hl.1 (Nat.le_of_ble_eq_true rfl) d_Q_standsAt_38 ⟨(by first | exact Nat.le_of_ble_eq_true rfl | (dsimp only; omega) | omega), (by first | exact Nat.le_of_ble_eq_true rfl | (dsimp only; omega) | omega)⟩) hP hD hS hA [] [0, 1, 2] rfl rfl rfl (by decide) (fun r_4 w1 H locs hp hP hD hS => ?_)
    obtain ⟨rfl, rfl⟩ := hp
    have hP : va_P (gD g) classes [(q0, .inr (2, [.ref b])), (b, .inr (3, [.ref v, .int 0, .int ml, .int (nI xs.length)])), (v, .inl (gB g, cp, .inl a))] H := hP
    have hD : va_D A [(q0, .inr (2, [.ref b])), (b, .inr (3, [.ref v, .int 0, .int ml, .int (nI xs.length)])), (v, .inl (gB g, cp, .inl a))] := hD
    refine lv_icmp_eq (tgt := 46) hx hb d_Q_standsAt_41 (by decide) (fun c_5 => ?_) (fun c_5 => ?_)
    · skip
      refine lv_iinc (v := (x + 1)) (lv' := [(4, .int (x + 1)), (0, .ref q0), (1, .ref (gK g i)), (2, .int (nI f))]) hx hb d_Q_standsAt_46 hl (k := 0) rfl (by first | rfl | decide) (by decide) rfl (fun ls hl => ?_)
      refine lv_goto (tgt := 15) hx hb d_Q_standsAt_49 (by decide) ?_
      exact ih _ (by omega) (by rw [ex, nI_1]; congr 1; omega) (by rw [zg_Q_standsAt, if_pos c_5] at hp1; exact hp1) _ _ (hP.sub (ws' := [(q0, .inr (2, [.ref b])), (b, .inr (3, [.ref v, .int 0, .int ml, .int (nI xs.length)])), (v, .inl (gB g, cp, .inl a))]) [0, 1, 2] rfl) (hD.sub (ws' := [(q0, .inr (2, [.ref b])), (b, .inr (3, [.ref v, .int 0, .int ml, .int (nI xs.length)])), (v, .inl (gB g, cp, .inl a))]) [0, 1, 2] rfl rfl) hS _ (lv_sub hl [0, 1, 2, 3] rfl)
    · skip
      refine lv_iconst (v := 0) hx hb d_Q_standsAt_44 (by decide) ?_
      rw [zg_Q_standsAt, if_neg c_5] at hp1
      exact ret_i hx hb hr hlk (hP.sub (ws' := [(q0, .inr (2, [.ref b])), (b, .inr (3, [.ref v, .int 0, .int ml, .int (nI xs.length)])), (v, .inl (gB g, cp, .inl a))]) [0, 1, 2] rfl) (hD.sub (ws' := [(q0, .inr (2, [.ref b])), (b, .inr (3, [.ref v, .int 0, .int ml, .int (nI xs.length)])), (v, .inl (gB g, cp, .inl a))]) [0, 1, 2] rfl rfl) hS (by decide) ⟨hp1, rfl⟩ (by first | exact Nat.le_of_ble_eq_true rfl | (dsimp only; omega) | omega) (by first | exact Nat.le_of_ble_eq_true rfl | (dsimp only; omega) | omega) d_Q_standsAt_45
def f_Q_standsAt (xs : List Nat) (i f q : Nat) : Int32 := (if (nI (li_x i).length) ≤ (nI (q - f)) then (zg_Q_standsAt xs i f (li_x i).length) else 0)
set_option maxHeartbeats 4000000 in
set_option maxRecDepth 100000 in
theorem c_Q_standsAt (g : gT) (l : Launch) (sz : Nat) (q0 b v cp : Nat) (ml : Int32) (a : Nat → Int32) (xs : List Nat) (ht : tx xs cp a) (i f q : Nat) (hi : i < 41) (hfq : f ≤ q) (hq : q ≤ xs.length) : Mg g l y_Q_standsAt b_Q_standsAt 5 (some .boolean) 4 88 0 0 [.ref q0, .ref (gK g i), .int (nI f), .int (nI q)] [(q0, .inr (2, [.ref b])), (b, .inr (3, [.ref v, .int 0, .int ml, .int (nI xs.length)])), (v, .inl (gB g, cp, .inl a))] sz (qI g (fun r w1 => r = f_Q_standsAt xs i f q ∧ w1 = [(q0, .inr (2, [.ref b])), (b, .inr (3, [.ref v, .int 0, .int ml, .int (nI xs.length)])), (v, .inl (gB g, cp, .inl a))])) := by
  refine mg_of (by decide) (Nat.le_of_ble_eq_true rfl) ?_
  intro p e s m below meth c ls A hx hb hF hr hlk hnm hA G hP hD hS hl
  have hK := G.2.1
  have hN := G.1
  have hl : lv_has ls 5 [(0, .ref q0), (1, .ref (gK g i)), (2, .int (nI f)), (3, .int (nI q))] := hl
  have ht1 := ht.1
  have ht2 := ht.2.1
  have ht3 := ht.2.2.1
  have h21 := li_40 i hi
  refine lv_iload_n hx hb d_Q_standsAt_0 rfl (lv_at hl 3 rfl) ?_
  refine lv_iload_n hx hb d_Q_standsAt_1 rfl (lv_at hl 2 rfl) ?_
  refine lv_isub hx hb d_Q_standsAt_2 ?_
  refine tp_i (show ((nI q) - (nI f)) = (nI (q - f)) from pk_sub hfq) ?_
  refine lv_aload_n hx hb d_Q_standsAt_3 rfl (lv_at hl 1 rfl) ?_
  refine go_i (wr := [(q0, .inr (2, [.ref b])), (b, .inr (3, [.ref v, .int 0, .int ml, .int (nI xs.length)])), (v, .inl (gB g, cp, .inl a))]) (run_V hF (c_St_length g l _ i hi) k_St_length j_Q_51 se_St_St_length (va_Orecv (G.2.2.2.1 i hi).1 hS) (cw_down G hP hD hS hA [] rfl rfl) ⟨Nat.le_of_ble_eq_true rfl, Nat.le_of_ble_eq_true rfl⟩ rfl hl.1 (Nat.le_of_ble_eq_true rfl) d_Q_standsAt_4 ⟨(by first | exact Nat.le_of_ble_eq_true rfl | (dsimp only; omega) | omega), (by first | exact Nat.le_of_ble_eq_true rfl | (dsimp only; omega) | omega)⟩) hP hD hS hA [] [0, 1, 2] rfl rfl rfl (by decide) (fun r_1 w1 H locs hp hP hD hS => ?_)
  obtain ⟨rfl, rfl⟩ := hp
  have hP : va_P (gD g) classes [(q0, .inr (2, [.ref b])), (b, .inr (3, [.ref v, .int 0, .int ml, .int (nI xs.length)])), (v, .inl (gB g, cp, .inl a))] H := hP
  have hD : va_D A [(q0, .inr (2, [.ref b])), (b, .inr (3, [.ref v, .int 0, .int ml, .int (nI xs.length)])), (v, .inl (gB g, cp, .inl a))] := hD
  refine lv_icmp_ge (tgt := 12) hx hb d_Q_standsAt_7 (by decide) (fun c_2 => ?_) (fun c_2 => ?_)
  · skip
    have hfl : f + (li_x i).length ≤ q := by have := (nI_leI (a := (li_x i).length) (b := q - f) (by omega) (by omega)).mp c_2; omega
    refine lv_iconst (v := 0) hx hb d_Q_standsAt_12 (by decide) ?_
    refine lv_istore (lv' := [(4, .int 0), (0, .ref q0), (1, .ref (gK g i)), (2, .int (nI f)), (3, .int (nI q))]) hx hb d_Q_standsAt_13 hl (by decide) rfl (fun ls hl => ?_)
    exact lp_Q_standsAt q0 b v cp ml a xs ht i f q hi hfl hq hx hb hF hr hlk hA G (f_Q_standsAt xs i f q) (li_x i).length 0 (Nat.le_refl _) (by rw [Nat.sub_self]; rfl) (by rw [f_Q_standsAt, if_pos c_2]) _ _ (hP.sub (ws' := [(q0, .inr (2, [.ref b])), (b, .inr (3, [.ref v, .int 0, .int ml, .int (nI xs.length)])), (v, .inl (gB g, cp, .inl a))]) [0, 1, 2] rfl) (hD.sub (ws' := [(q0, .inr (2, [.ref b])), (b, .inr (3, [.ref v, .int 0, .int ml, .int (nI xs.length)])), (v, .inl (gB g, cp, .inl a))]) [0, 1, 2] rfl rfl) hS _ (lv_sub hl [0, 1, 2, 3] rfl)
  · skip
    refine lv_iconst (v := 0) hx hb d_Q_standsAt_10 (by decide) ?_
    exact ret_i hx hb hr hlk (hP.sub (ws' := [(q0, .inr (2, [.ref b])), (b, .inr (3, [.ref v, .int 0, .int ml, .int (nI xs.length)])), (v, .inl (gB g, cp, .inl a))]) [0, 1, 2] rfl) (hD.sub (ws' := [(q0, .inr (2, [.ref b])), (b, .inr (3, [.ref v, .int 0, .int ml, .int (nI xs.length)])), (v, .inl (gB g, cp, .inl a))]) [0, 1, 2] rfl rfl) hS (by decide) ⟨by rw [f_Q_standsAt, if_neg c_2], rfl⟩ (by first | exact Nat.le_of_ble_eq_true rfl | (dsimp only; omega) | omega) (by first | exact Nat.le_of_ble_eq_true rfl | (dsimp only; omega) | omega) d_Q_standsAt_11
def zn_Q_countLevels (xs : List Nat) : Nat → Nat
  | 0 => xs.length
  | d + 1 => if (nI (xs.getD (xs.length - (d + 1)) 0)) = 91 then zn_Q_countLevels xs d else xs.length - (d + 1)
def zg_Q_countLevels (xs : List Nat) : Nat → Int32
  | 0 => nI (xs.length - 0)
  | d + 1 => if (nI (xs.getD (xs.length - (d + 1)) 0)) = 91 then zg_Q_countLevels xs d else nI (xs.length - (d + 1))
theorem zg_cl (xs : List Nat) : ∀ d, zg_Q_countLevels xs d = nI (zn_Q_countLevels xs d) := by
  intro d
  induction d with
  | zero => rfl
  | succ d ih => rw [zg_Q_countLevels, zn_Q_countLevels, ih]; split <;> rfl
theorem zn_cl_le (xs : List Nat) : ∀ d, d ≤ xs.length → zn_Q_countLevels xs d ≤ xs.length := by
  intro d
  induction d with
  | zero => intro _; exact Nat.le_refl _
  | succ d ih =>
    intro h
    have h1 := ih (by omega)
    rw [zn_Q_countLevels]
    split <;> omega
set_option maxRecDepth 100000 in
theorem k_Q_countLevels : ck y_Q_countLevels b_Q_countLevels 2 (some .int) 0 (.instanceMethod y_Q_countLevels) := ⟨tk_of (List.mem_of_getElem? (i := 559) rfl) rfl, tk_of (List.mem_of_getElem? (i := 558) (by decide +kernel)) rfl, tk_of (List.mem_of_getElem? (i := 42) (by decide +kernel)) rfl, by decide +kernel⟩
set_option maxHeartbeats 4000000 in
set_option maxRecDepth 100000 in
theorem lp_Q_countLevels {p : Program} {l : Launch} {e : Env} {s : State} {m : MethodId} {args : Array Value} {below : List Frame} {meth : Method} {c : Code} {g : gT} {A : Nat → Prop} (q0 b v cp : Nat) (ml : Int32) (a : Nat → Int32) (xs : List Nat) (ht : tx xs cp a)  (hx : p.tables.exec = Jvm.exec) (hb : c.code = b_Q_countLevels) (hF : CallFix p m c b_Q_countLevels 2 s args tk R_Q) (hr : meth.sig.returnType = some .int) (hlk : meth.locks = false) (hA : ∀ q, s.heap.size ≤ q → A q) (G : Gx g A s s.heap) (E : Int32) :
    ∀ (d : Nat) (x : Int32), d ≤ xs.length → x = nI (xs.length - d) → zg_Q_countLevels xs d = E → ∀ (H : Heap) (locs : List Loc), va_P (gD g) classes [(q0, .inr (2, [.ref b])), (b, .inr (3, [.ref v, .int 0, .int ml, .int (nI xs.length)])), (v, .inl (gB g, cp, .inl a))] H → va_D A [(q0, .inr (2, [.ref b])), (b, .inr (3, [.ref v, .int 0, .int ml, .int (nI xs.length)])), (v, .inl (gB g, cp, .inl a))] → va_S A s.heap H locs → ∀ ls : Array Slot, lv_has ls 2 [(1, .int x), (0, .ref q0)] → W p l e ({ frames := 4, cells := 0, slots := 0, locals := 88 }) s m args below meth c H locs 0 0 (MQ below (qI g (fun r w1 => r = E ∧ w1 = [(q0, .inr (2, [.ref b])), (b, .inr (3, [.ref v, .int 0, .int ml, .int (nI xs.length)])), (v, .inl (gB g, cp, .inl a))]) A) args s 0 0 A) (F0 m 2 ls []) := by
  have hK := G.2.1
  have hN := G.1
  have ht1 := ht.1
  have ht2 := ht.2.1
  have ht3 := ht.2.2.1
  
  intro d
  induction d with
  | zero =>
    intro x hd ex hp1 H locs hP hD hS ls hl
    have hle : nI xs.length ≤ x := by rw [ex]; exact nI_le (by omega) (by omega)
    refine lv_iload_n hx hb d_Q_countLevels_2 rfl (lv_at hl 0 rfl) ?_
    refine lv_aload_n hx hb d_Q_countLevels_3 rfl (lv_at hl 1 rfl) ?_
    refine va_get (D := gD g) (ci := 2) (v := .ref b) (C := R_Q) (T := F_Q) (N := 1) hx hb hF.2.2.2.2 in_Q hF.2.2.2.1 hK hP 0 rfl rfl 0 (by decide) (hF.2.2.2.2 _ fl_Q_12) (fun _ h9 => h9) rfl d_Q_countLevels_4 ?_
    refine go_i (wr := [(q0, .inr (2, [.ref b]))]) (run_V hF (c_SB_length g l _ b v xs.length cp ml a) k_SB_length j_Q_18 se_SB_SB_length (va_recv hK hP (ci := 3) (q0 := 1) rfl rfl) (cw_down G hP hD hS hA [1, 2] rfl rfl) ⟨Nat.le_of_ble_eq_true rfl, Nat.le_of_ble_eq_true rfl⟩ rfl hl.1 (Nat.le_of_ble_eq_true rfl) d_Q_countLevels_7 ⟨(by first | exact Nat.le_of_ble_eq_true rfl | (dsimp only; omega) | omega), (by first | exact Nat.le_of_ble_eq_true rfl | (dsimp only; omega) | omega)⟩) hP hD hS hA [1, 2] [0] rfl rfl rfl (by decide) (fun r_1 w1 H locs hp hP hD hS => ?_)
    obtain ⟨rfl, rfl⟩ := hp
    have hP : va_P (gD g) classes [(q0, .inr (2, [.ref b])), (b, .inr (3, [.ref v, .int 0, .int ml, .int (nI xs.length)])), (v, .inl (gB g, cp, .inl a))] H := hP
    have hD : va_D A [(q0, .inr (2, [.ref b])), (b, .inr (3, [.ref v, .int 0, .int ml, .int (nI xs.length)])), (v, .inl (gB g, cp, .inl a))] := hD
    refine lv_icmp_ge (tgt := 32) hx hb d_Q_countLevels_10 (by decide) (fun c_2 => ?_) (fun c_2 => absurd hle c_2)
    refine lv_iload_n hx hb d_Q_countLevels_32 rfl (lv_at hl 0 rfl) ?_
    exact ret_i hx hb hr hlk (hP.sub (ws' := [(q0, .inr (2, [.ref b])), (b, .inr (3, [.ref v, .int 0, .int ml, .int (nI xs.length)])), (v, .inl (gB g, cp, .inl a))]) [0, 1, 2] rfl) (hD.sub (ws' := [(q0, .inr (2, [.ref b])), (b, .inr (3, [.ref v, .int 0, .int ml, .int (nI xs.length)])), (v, .inl (gB g, cp, .inl a))]) [0, 1, 2] rfl rfl) hS (nar_i _) ⟨(ex.trans hp1), rfl⟩ (by first | exact Nat.le_of_ble_eq_true rfl | (dsimp only; omega) | omega) (by first | exact Nat.le_of_ble_eq_true rfl | (dsimp only; omega) | omega) d_Q_countLevels_33
  | succ d ih =>
    intro x hd ex hp1 H locs hP hD hS ls hl
    have hj : (xs.length - (d + 1)) < xs.length := by omega
    have hlt : ¬ nI xs.length ≤ x := by rw [ex]; exact nI_ge hj (by omega)
    refine lv_iload_n hx hb d_Q_countLevels_2 rfl (lv_at hl 0 rfl) ?_
    refine lv_aload_n hx hb d_Q_countLevels_3 rfl (lv_at hl 1 rfl) ?_
    refine va_get (D := gD g) (ci := 2) (v := .ref b) (C := R_Q) (T := F_Q) (N := 1) hx hb hF.2.2.2.2 in_Q hF.2.2.2.1 hK hP 0 rfl rfl 0 (by decide) (hF.2.2.2.2 _ fl_Q_12) (fun _ h9 => h9) rfl d_Q_countLevels_4 ?_
    refine go_i (wr := [(q0, .inr (2, [.ref b]))]) (run_V hF (c_SB_length g l _ b v xs.length cp ml a) k_SB_length j_Q_18 se_SB_SB_length (va_recv hK hP (ci := 3) (q0 := 1) rfl rfl) (cw_down G hP hD hS hA [1, 2] rfl rfl) ⟨Nat.le_of_ble_eq_true rfl, Nat.le_of_ble_eq_true rfl⟩ rfl hl.1 (Nat.le_of_ble_eq_true rfl) d_Q_countLevels_7 ⟨(by first | exact Nat.le_of_ble_eq_true rfl | (dsimp only; omega) | omega), (by first | exact Nat.le_of_ble_eq_true rfl | (dsimp only; omega) | omega)⟩) hP hD hS hA [1, 2] [0] rfl rfl rfl (by decide) (fun r_1 w1 H locs hp hP hD hS => ?_)
    obtain ⟨rfl, rfl⟩ := hp
    have hP : va_P (gD g) classes [(q0, .inr (2, [.ref b])), (b, .inr (3, [.ref v, .int 0, .int ml, .int (nI xs.length)])), (v, .inl (gB g, cp, .inl a))] H := hP
    have hD : va_D A [(q0, .inr (2, [.ref b])), (b, .inr (3, [.ref v, .int 0, .int ml, .int (nI xs.length)])), (v, .inl (gB g, cp, .inl a))] := hD
    refine lv_icmp_ge (tgt := 32) hx hb d_Q_countLevels_10 (by decide) (fun c_2 => absurd c_2 hlt) (fun c_2 => ?_)
    refine lv_aload_n hx hb d_Q_countLevels_13 rfl (lv_at hl 1 rfl) ?_
    refine va_get (D := gD g) (ci := 2) (v := .ref b) (C := R_Q) (T := F_Q) (N := 1) hx hb hF.2.2.2.2 in_Q hF.2.2.2.1 hK hP 0 rfl rfl 0 (by decide) (hF.2.2.2.2 _ fl_Q_12) (fun _ h9 => h9) rfl d_Q_countLevels_14 ?_
    refine lv_iload_n hx hb d_Q_countLevels_17 rfl (lv_at hl 0 rfl) ?_
    refine tp_i ex ?_
    refine go_i (wr := [(q0, .inr (2, [.ref b]))]) (run_V hF (c_SB_charAt g l _ b v cp ml a xs ht (xs.length - (d + 1)) (by omega)) k_SB_charAt j_Q_37 se_SB_SB_charAt (va_recv hK hP (ci := 3) (q0 := 1) rfl rfl) (cw_down G hP hD hS hA [1, 2] rfl rfl) ⟨Nat.le_of_ble_eq_true rfl, Nat.le_of_ble_eq_true rfl⟩ rfl hl.1 (Nat.le_of_ble_eq_true rfl) d_Q_countLevels_18 ⟨(by first | exact Nat.le_of_ble_eq_true rfl | (dsimp only; omega) | omega), (by first | exact Nat.le_of_ble_eq_true rfl | (dsimp only; omega) | omega)⟩) hP hD hS hA [1, 2] [0] rfl rfl rfl (by decide) (fun r_3 w1 H locs hp hP hD hS => ?_)
    obtain ⟨rfl, rfl⟩ := hp
    have hP : va_P (gD g) classes [(q0, .inr (2, [.ref b])), (b, .inr (3, [.ref v, .int 0, .int ml, .int (nI xs.length)])), (v, .inl (gB g, cp, .inl a))] H := hP
    have hD : va_D A [(q0, .inr (2, [.ref b])), (b, .inr (3, [.ref v, .int 0, .int ml, .int (nI xs.length)])), (v, .inl (gB g, cp, .inl a))] := hD
    refine lv_bipush (v := 91) hx hb d_Q_countLevels_21 (by decide) ?_
    refine lv_icmp_ne (tgt := 32) hx hb d_Q_countLevels_23 (by decide) (fun c_4 => ?_) (fun c_4 => ?_)
    · skip
      refine lv_iload_n hx hb d_Q_countLevels_32 rfl (lv_at hl 0 rfl) ?_
      rw [zg_Q_countLevels, if_neg c_4] at hp1
      exact ret_i hx hb hr hlk (hP.sub (ws' := [(q0, .inr (2, [.ref b])), (b, .inr (3, [.ref v, .int 0, .int ml, .int (nI xs.length)])), (v, .inl (gB g, cp, .inl a))]) [0, 1, 2] rfl) (hD.sub (ws' := [(q0, .inr (2, [.ref b])), (b, .inr (3, [.ref v, .int 0, .int ml, .int (nI xs.length)])), (v, .inl (gB g, cp, .inl a))]) [0, 1, 2] rfl rfl) hS (nar_i _) ⟨(ex.trans hp1), rfl⟩ (by first | exact Nat.le_of_ble_eq_true rfl | (dsimp only; omega) | omega) (by first | exact Nat.le_of_ble_eq_true rfl | (dsimp only; omega) | omega) d_Q_countLevels_33
    · skip
      refine lv_iinc (v := (x + 1)) (lv' := [(1, .int (x + 1)), (0, .ref q0)]) hx hb d_Q_countLevels_26 hl (k := 0) rfl (by first | rfl | decide) (by decide) rfl (fun ls hl => ?_)
      refine lv_goto (tgt := 2) hx hb d_Q_countLevels_29 (by decide) ?_
      exact ih _ (by omega) (by rw [ex, nI_1]; congr 1; omega) (by rw [zg_Q_countLevels, if_pos c_4] at hp1; exact hp1) _ _ (hP.sub (ws' := [(q0, .inr (2, [.ref b])), (b, .inr (3, [.ref v, .int 0, .int ml, .int (nI xs.length)])), (v, .inl (gB g, cp, .inl a))]) [0, 1, 2] rfl) (hD.sub (ws' := [(q0, .inr (2, [.ref b])), (b, .inr (3, [.ref v, .int 0, .int ml, .int (nI xs.length)])), (v, .inl (gB g, cp, .inl a))]) [0, 1, 2] rfl rfl) hS _ (lv_sub hl [0, 1] rfl)
set_option maxHeartbeats 4000000 in
set_option maxRecDepth 100000 in
theorem c_Q_countLevels (g : gT) (l : Launch) (sz : Nat) (q0 b v cp : Nat) (ml : Int32) (a : Nat → Int32) (xs : List Nat) (ht : tx xs cp a)  : Mg g l y_Q_countLevels b_Q_countLevels 2 (some .int) 4 88 0 0 [.ref q0] [(q0, .inr (2, [.ref b])), (b, .inr (3, [.ref v, .int 0, .int ml, .int (nI xs.length)])), (v, .inl (gB g, cp, .inl a))] sz (qI g (fun r w1 => r = nI (zn_Q_countLevels xs xs.length) ∧ w1 = [(q0, .inr (2, [.ref b])), (b, .inr (3, [.ref v, .int 0, .int ml, .int (nI xs.length)])), (v, .inl (gB g, cp, .inl a))])) := by
  refine mg_of (by decide) (Nat.le_of_ble_eq_true rfl) ?_
  intro p e s m below meth c ls A hx hb hF hr hlk hnm hA G hP hD hS hl
  have hK := G.2.1
  have hN := G.1
  have hl : lv_has ls 2 [(0, .ref q0)] := hl
  have ht1 := ht.1
  have ht2 := ht.2.1
  have ht3 := ht.2.2.1
  refine lv_iconst (v := 0) hx hb d_Q_countLevels_0 (by decide) ?_
  refine lv_istore_n (lv' := [(1, .int 0), (0, .ref q0)]) hx hb d_Q_countLevels_1 rfl hl (by decide) rfl (fun ls hl => ?_)
  exact lp_Q_countLevels q0 b v cp ml a xs ht hx hb hF hr hlk hA G (nI (zn_Q_countLevels xs xs.length)) xs.length 0 (Nat.le_refl _) (by rw [Nat.sub_self]; rfl) (zg_cl xs _) _ _ hP hD hS _ hl
