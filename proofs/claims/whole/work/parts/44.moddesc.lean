set_option maxHeartbeats 4000000 in
set_option maxRecDepth 100000 in
theorem lp_M_addDescriptor {p : Program} {l : Launch} {e : Env} {s : State} {m : MethodId} {args : Array Value} {below : List Frame} {meth : Method} {c : Code} {g : gT} {A : Nat → Prop} {Q : State → Prop} {R : Room} {cells slots : Nat} {h0 a1 a2 a3 a4 : Nat} {n2 n3 t : Int32} {sl : Int32} (hsl : ¬ sl = 0) (hx : p.tables.exec = Jvm.exec) (hb : c.code = b_M_addDescriptor) (hF : CallFix p m c b_M_addDescriptor 5 s args tk R_M) (hA : ∀ q, s.heap.size ≤ q → A q) (G : Gx g A s s.heap) (L : List Int32) (hL : L.length ≤ 200) (k : Nat)
    (hend : ∀ (md : Nat → Int32), mt (rpf k L.length 46 47 0 L) md → ∀ (H : Heap) (locs : List Loc) (ls : Array Slot), va_P (gD g) classes [(h0, .inr (4, [.ref a1, .int (nI L.length), .ref a2, .int n2, .ref a3, .ref a4, .int n3])), (a1, .inl (gI g, 200, .inl md))] H → va_D A [(h0, .inr (4, [.ref a1, .int (nI L.length), .ref a2, .int n2, .ref a3, .ref a4, .int n3])), (a1, .inl (gI g, 200, .inl md))] → va_S A s.heap H locs → lv_has ls 5 [(0, .ref h0), (1, .int t), (2, .int sl)] → W p l e R s m args below meth c H locs cells slots Q (F0 m 75 ls [])) :
    ∀ (d i : Nat) (x : Int32) (md : Nat → Int32), i + d = L.length → x = nI i → k ≤ i → mt (rpf k i 46 47 0 L) md → ∀ (H : Heap) (locs : List Loc), va_P (gD g) classes [(h0, .inr (4, [.ref a1, .int (nI L.length), .ref a2, .int n2, .ref a3, .ref a4, .int n3])), (a1, .inl (gI g, 200, .inl md))] H → va_D A [(h0, .inr (4, [.ref a1, .int (nI L.length), .ref a2, .int n2, .ref a3, .ref a4, .int n3])), (a1, .inl (gI g, 200, .inl md))] → va_S A s.heap H locs → ∀ ls : Array Slot, lv_has ls 5 [(4, .int x), (0, .ref h0), (1, .int t), (2, .int sl)] → W p l e R s m args below meth c H locs cells slots Q (F0 m 35 ls []) := by
  have hK := G.2.1
  have hN := G.1
  intro d
  induction d with
  | zero =>
    intro i x md hd ex hk hm H locs hP hD hS ls hl
    have hle : nI L.length ≤ x := by rw [ex]; exact nI_le (by omega) (by omega)
    have ei : i = L.length := by omega
    rw [ei] at hm
    refine lv_iload_n hx hb d_M_addDescriptor_35 rfl (lv_at hl 3 rfl) ?_
    refine lv_if_eq (tgt := 75) hx hb d_M_addDescriptor_36 (by decide) (fun c_1 => absurd c_1 hsl) (fun c_1 => ?_)
    refine lv_iload hx hb d_M_addDescriptor_39 (lv_at hl 0 rfl) ?_
    refine lv_aload_n hx hb d_M_addDescriptor_41 rfl (lv_at hl 1 rfl) ?_
    refine va_get (D := gD g) (ci := 4) (v := .int (nI L.length)) (C := R_M) (T := F_M) (N := 7) hx hb hF.2.2.2.2 in_M hF.2.2.2.1 hK hP 0 rfl rfl 1 (by decide) (hF.2.2.2.2 _ fl_M_76) (fun _ h9 => h9) rfl d_M_addDescriptor_42 ?_
    refine lv_icmp_ge (tgt := 75) hx hb d_M_addDescriptor_45 (by decide) (fun c_2 => ?_) (fun c_2 => absurd hle c_2)
    exact hend md hm H locs ls hP hD hS (lv_sub hl [1, 2, 3] rfl)
  | succ d ih =>
    intro i x md hd ex hk hm H locs hP hD hS ls hl
    have hi : i < L.length := by omega
    have hlt : ¬ nI L.length ≤ x := by rw [ex]; exact nI_ge hi (by omega)
    have hin : vp_in x 200 := by rw [ex]; exact vp_in_nI (by omega) (by decide)
    have ei : x.toNatClampNeg = i := by rw [ex]; exact nI_clamp (by omega)
    refine lv_iload_n hx hb d_M_addDescriptor_35 rfl (lv_at hl 3 rfl) ?_
    refine lv_if_eq (tgt := 75) hx hb d_M_addDescriptor_36 (by decide) (fun c_1 => absurd c_1 hsl) (fun c_1 => ?_)
    refine lv_iload hx hb d_M_addDescriptor_39 (lv_at hl 0 rfl) ?_
    refine lv_aload_n hx hb d_M_addDescriptor_41 rfl (lv_at hl 1 rfl) ?_
    refine va_get (D := gD g) (ci := 4) (v := .int (nI L.length)) (C := R_M) (T := F_M) (N := 7) hx hb hF.2.2.2.2 in_M hF.2.2.2.1 hK hP 0 rfl rfl 1 (by decide) (hF.2.2.2.2 _ fl_M_76) (fun _ h9 => h9) rfl d_M_addDescriptor_42 ?_
    refine lv_icmp_ge (tgt := 75) hx hb d_M_addDescriptor_45 (by decide) (fun c_2 => absurd c_2 hlt) (fun c_2 => ?_)
    refine lv_aload_n hx hb d_M_addDescriptor_48 rfl (lv_at hl 1 rfl) ?_
    refine va_get (D := gD g) (ci := 4) (v := .ref a1) (C := R_M) (T := F_M) (N := 7) hx hb hF.2.2.2.2 in_M hF.2.2.2.1 hK hP 0 rfl rfl 0 (by decide) (hF.2.2.2.2 _ fl_M_7) (fun _ h9 => h9) rfl d_M_addDescriptor_49 ?_
    refine lv_iload hx hb d_M_addDescriptor_52 (lv_at hl 0 rfl) ?_
    refine va_iald hx hb hK hP 1 0 rfl rfl hin d_M_addDescriptor_54 ?_
    refine lv_bipush (v := 46) hx hb d_M_addDescriptor_55 (by decide) ?_
    refine lv_icmp_ne (tgt := 69) hx hb d_M_addDescriptor_57 (by decide) (fun c_3 => ?_) (fun c_3 => ?_)
    · skip
      refine lv_iinc (v := (x + 1)) (lv' := [(4, .int (x + 1)), (0, .ref h0), (1, .int t), (2, .int sl)]) hx hb d_M_addDescriptor_69 hl (k := 0) rfl (by first | rfl | decide) (by decide) rfl (fun ls hl => ?_)
      refine lv_goto (tgt := 35) hx hb d_M_addDescriptor_72 (by decide) ?_
      exact ih (i + 1) _ _ (by omega) (by rw [ex]; exact nI_1 i) (by omega) (mt_rp0 hm hi (by rw [← ei]; exact c_3)) _ _ (hP.sub (ws' := [(h0, .inr (4, [.ref a1, .int (nI L.length), .ref a2, .int n2, .ref a3, .ref a4, .int n3])), (a1, .inl (gI g, 200, .inl md))]) [0, 1] rfl) (hD.sub (ws' := [(h0, .inr (4, [.ref a1, .int (nI L.length), .ref a2, .int n2, .ref a3, .ref a4, .int n3])), (a1, .inl (gI g, 200, .inl md))]) [0, 1] rfl rfl) hS _ (lv_sub hl [0, 1, 2, 3] rfl)
    · skip
      refine lv_aload_n hx hb d_M_addDescriptor_60 rfl (lv_at hl 1 rfl) ?_
      refine va_get (D := gD g) (ci := 4) (v := .ref a1) (C := R_M) (T := F_M) (N := 7) hx hb hF.2.2.2.2 in_M hF.2.2.2.1 hK hP 0 rfl rfl 0 (by decide) (hF.2.2.2.2 _ fl_M_7) (fun _ h9 => h9) rfl d_M_addDescriptor_61 ?_
      refine lv_iload hx hb d_M_addDescriptor_64 (lv_at hl 0 rfl) ?_
      refine lv_bipush (v := 47) hx hb d_M_addDescriptor_66 (by decide) ?_
      refine va_iast hx hb hK hP hD hS 1 0 rfl rfl hin d_M_addDescriptor_68 (fun H locs hP hD hS => ?_)
      have hP : va_P (gD g) classes [(h0, .inr (4, [.ref a1, .int (nI L.length), .ref a2, .int n2, .ref a3, .ref a4, .int n3])), (a1, .inl (gI g, 200, .inl (upd md (x : Int32).toNatClampNeg 47)))] H := hP
      have hD : va_D A [(h0, .inr (4, [.ref a1, .int (nI L.length), .ref a2, .int n2, .ref a3, .ref a4, .int n3])), (a1, .inl (gI g, 200, .inl (upd md (x : Int32).toNatClampNeg 47)))] := hD
      refine lv_iinc (v := (x + 1)) (lv' := [(4, .int (x + 1)), (0, .ref h0), (1, .int t), (2, .int sl)]) hx hb d_M_addDescriptor_69 hl (k := 0) rfl (by first | rfl | decide) (by decide) rfl (fun ls hl => ?_)
      refine lv_goto (tgt := 35) hx hb d_M_addDescriptor_72 (by decide) ?_
      exact ih (i + 1) _ _ (by omega) (by rw [ex]; exact nI_1 i) (by omega) (by rw [ei]; exact mt_rp1 hm hk hi (by rw [← ei]; exact c_3)) _ _ (hP.sub (ws' := [(h0, .inr (4, [.ref a1, .int (nI L.length), .ref a2, .int n2, .ref a3, .ref a4, .int n3])), (a1, .inl (gI g, 200, .inl (upd md (x : Int32).toNatClampNeg 47)))]) [0, 1] rfl) (hD.sub (ws' := [(h0, .inr (4, [.ref a1, .int (nI L.length), .ref a2, .int n2, .ref a3, .ref a4, .int n3])), (a1, .inl (gI g, 200, .inl (upd md (x : Int32).toNatClampNeg 47)))]) [0, 1] rfl rfl) hS _ (lv_sub hl [0, 1, 2, 3] rfl)
def z_M_addDescriptor (xs : List Int32) (t sl : Int32) : List Int32 := (if (f_M_primitive t) = 0 then (if sl = 0 then (z_M_one (z_M_addName (z_M_one xs 76) t) 59) else (z_M_one (rpf (z_M_one xs 76).length (z_M_addName (z_M_one xs 76) t).length 46 47 0 (z_M_addName (z_M_one xs 76) t)) 59)) else (z_M_one xs (f_M_sign t)))
set_option maxRecDepth 100000 in
theorem k_M_addDescriptor : ck y_M_addDescriptor b_M_addDescriptor 5 (none) 2 (.instanceMethod y_M_addDescriptor) := ⟨tk_of (List.mem_of_getElem? (i := 723) rfl) rfl, tk_of (List.mem_of_getElem? (i := 722) (by decide +kernel)) rfl, tk_of (List.mem_of_getElem? (i := 43) (by decide +kernel)) rfl, by decide +kernel⟩
theorem j_M_110 : Cond.methodLink R_M 110 y_M_addName ∈ tk := tk_of (List.mem_of_getElem? (i := 730) (by decide +kernel)) rfl
theorem se_M_M_addName : Cond.selects R_M y_M_addName y_M_addName ∈ tk := tk_of (List.mem_of_getElem? (i := 24) (by decide +kernel)) rfl
theorem j_M_106 : Cond.methodLink R_M 106 y_M_sign ∈ tk := tk_of (List.mem_of_getElem? (i := 727) (by decide +kernel)) rfl
set_option maxHeartbeats 4000000 in
set_option maxRecDepth 100000 in
theorem c_M_addDescriptor (g : gT) (l : Launch) (sz : Nat) (h0 a1 a2 a3 a4 : Nat) (n2 n3 : Int32) (xs : List Int32) (md : Nat → Int32) (hm : mt xs md) (t sl : Int32) (hlen : xs.length + 69 ≤ 200) : Mg g l y_M_addDescriptor b_M_addDescriptor 5 (none) 4 87 1 9 [.ref h0, .int t, .int sl] [(h0, .inr (4, [.ref a1, .int (nI xs.length), .ref a2, .int n2, .ref a3, .ref a4, .int n3])), (a1, .inl (gI g, 200, .inl md))] sz (qV g (fun w1 => ∃ md' : Nat → Int32, w1 = [(h0, .inr (4, [.ref a1, .int (nI (z_M_addDescriptor xs t sl).length), .ref a2, .int n2, .ref a3, .ref a4, .int n3])), (a1, .inl (gI g, 200, .inl md'))] ∧ mt (z_M_addDescriptor xs t sl) md' ∧ (z_M_addDescriptor xs t sl).length ≤ xs.length + 69 ∧ xs.length ≤ (z_M_addDescriptor xs t sl).length)) := by
  refine mg_of (by decide) (Nat.le_of_ble_eq_true rfl) ?_
  intro p e s m below meth c ls A hx hb hF hr hlk hnm hA G hP hD hS hl
  have hK := G.2.1
  have hN := G.1
  have hl : lv_has ls 5 [(0, .ref h0), (1, .int t), (2, .int sl)] := hl
  refine lv_iload_n hx hb d_M_addDescriptor_0 rfl (lv_at hl 1 rfl) ?_
  refine pm_callE hF hN (c_M_primitive l t) k_M_primitive j_M_102 ⟨Nat.le_of_ble_eq_true rfl, Nat.le_of_ble_eq_true rfl⟩ rfl hl.1 (Nat.le_of_ble_eq_true rfl) d_M_addDescriptor_1 ⟨by first | omega | exact Nat.zero_le _, by first | omega | exact Nat.zero_le _⟩ ?_
  refine lv_if_eq (tgt := 16) hx hb d_M_addDescriptor_4 (by decide) (fun c_2 => ?_) (fun c_2 => ?_)
  · skip
    refine lv_aload_n hx hb d_M_addDescriptor_16 rfl (lv_at hl 0 rfl) ?_
    refine lv_bipush (v := 76) hx hb d_M_addDescriptor_17 (by decide) ?_
    refine go_v (wr := []) (run_V hF (c_M_one g l _ h0 a1 a2 a3 a4 n2 n3 xs md hm 76 (by omega)) k_M_one j_M_79 se_M_M_one (va_recv hK hP (ci := 4) (q0 := 0) rfl rfl) (cw_down G hP hD hS hA [0, 1] rfl rfl) ⟨Nat.le_of_ble_eq_true rfl, Nat.le_of_ble_eq_true rfl⟩ rfl hl.1 (Nat.le_of_ble_eq_true rfl) d_M_addDescriptor_19 ⟨(by first | exact Nat.le_of_ble_eq_true rfl | (dsimp only; omega) | omega), (by first | exact Nat.le_of_ble_eq_true rfl | (dsimp only; omega) | omega)⟩) hP hD hS hA [0, 1] [] rfl rfl rfl (by decide) (fun w1 H locs hp hP hD hS => ?_)
    obtain ⟨md_4, rfl, hm_4, hn_4, hn_4b⟩ := hp
    have hP : va_P (gD g) classes [(h0, .inr (4, [.ref a1, .int (nI (z_M_one xs 76).length), .ref a2, .int n2, .ref a3, .ref a4, .int n3])), (a1, .inl (gI g, 200, .inl md_4))] H := hP
    have hD : va_D A [(h0, .inr (4, [.ref a1, .int (nI (z_M_one xs 76).length), .ref a2, .int n2, .ref a3, .ref a4, .int n3])), (a1, .inl (gI g, 200, .inl md_4))] := hD
    refine lv_aload_n hx hb d_M_addDescriptor_22 rfl (lv_at hl 0 rfl) ?_
    refine va_get (D := gD g) (ci := 4) (v := .int (nI (z_M_one xs 76).length)) (C := R_M) (T := F_M) (N := 7) hx hb hF.2.2.2.2 in_M hF.2.2.2.1 hK hP 0 rfl rfl 1 (by decide) (hF.2.2.2.2 _ fl_M_76) (fun _ h9 => h9) rfl d_M_addDescriptor_23 ?_
    refine lv_istore_n (lv' := [(3, .int (nI (z_M_one xs 76).length)), (0, .ref h0), (1, .int t), (2, .int sl)]) hx hb d_M_addDescriptor_26 rfl hl (by decide) rfl (fun ls hl => ?_)
    refine lv_aload_n hx hb d_M_addDescriptor_27 rfl (lv_at hl 1 rfl) ?_
    refine lv_iload_n hx hb d_M_addDescriptor_28 rfl (lv_at hl 2 rfl) ?_
    refine go_v (wr := []) (run_V hF (c_M_addName g l _ h0 a1 a2 a3 a4 n2 n3 (z_M_one xs 76) md_4 hm_4 t (by omega)) k_M_addName j_M_110 se_M_M_addName (va_recv hK hP (ci := 4) (q0 := 0) rfl rfl) (cw_down G hP hD hS hA [0, 1] rfl rfl) ⟨Nat.le_of_ble_eq_true rfl, Nat.le_of_ble_eq_true rfl⟩ rfl hl.1 (Nat.le_of_ble_eq_true rfl) d_M_addDescriptor_29 ⟨(by first | exact Nat.le_of_ble_eq_true rfl | (dsimp only; omega) | omega), (by first | exact Nat.le_of_ble_eq_true rfl | (dsimp only; omega) | omega)⟩) hP hD hS hA [0, 1] [] rfl rfl rfl (by decide) (fun w1 H locs hp hP hD hS => ?_)
    obtain ⟨md_6, rfl, hm_6, hn_6, hn_6b⟩ := hp
    have hP : va_P (gD g) classes [(h0, .inr (4, [.ref a1, .int (nI (z_M_addName (z_M_one xs 76) t).length), .ref a2, .int n2, .ref a3, .ref a4, .int n3])), (a1, .inl (gI g, 200, .inl md_6))] H := hP
    have hD : va_D A [(h0, .inr (4, [.ref a1, .int (nI (z_M_addName (z_M_one xs 76) t).length), .ref a2, .int n2, .ref a3, .ref a4, .int n3])), (a1, .inl (gI g, 200, .inl md_6))] := hD
    refine lv_iload_n hx hb d_M_addDescriptor_32 rfl (lv_at hl 0 rfl) ?_
    refine lv_istore (lv' := [(4, .int (nI (z_M_one xs 76).length)), (3, .int (nI (z_M_one xs 76).length)), (0, .ref h0), (1, .int t), (2, .int sl)]) hx hb d_M_addDescriptor_33 hl (by decide) rfl (fun ls hl => ?_)
    by_cases c_7 : sl = 0
    · refine lv_iload_n hx hb d_M_addDescriptor_35 rfl (lv_at hl 4 rfl) ?_
      refine lv_if_eq (tgt := 75) hx hb d_M_addDescriptor_36 (by decide) (fun _ => ?_) (fun q => absurd c_7 q)
      refine lv_aload_n hx hb d_M_addDescriptor_75 rfl (lv_at hl 2 rfl) ?_
      refine lv_bipush (v := 59) hx hb d_M_addDescriptor_76 (by decide) ?_
      refine go_v (wr := []) (run_V hF (c_M_one g l _ h0 a1 a2 a3 a4 n2 n3 (z_M_addName (z_M_one xs 76) t) md_6 hm_6 59 (by omega)) k_M_one j_M_79 se_M_M_one (va_recv hK hP (ci := 4) (q0 := 0) rfl rfl) (cw_down G hP hD hS hA [0, 1] rfl rfl) ⟨Nat.le_of_ble_eq_true rfl, Nat.le_of_ble_eq_true rfl⟩ rfl hl.1 (Nat.le_of_ble_eq_true rfl) d_M_addDescriptor_78 ⟨(by first | exact Nat.le_of_ble_eq_true rfl | (dsimp only; omega) | omega), (by first | exact Nat.le_of_ble_eq_true rfl | (dsimp only; omega) | omega)⟩) hP hD hS hA [0, 1] [] rfl rfl rfl (by decide) (fun w1 H locs hp hP hD hS => ?_)
      obtain ⟨md_9, rfl, hm_9, hn_9, hn_9b⟩ := hp
      have hP : va_P (gD g) classes [(h0, .inr (4, [.ref a1, .int (nI (z_M_one (z_M_addName (z_M_one xs 76) t) 59).length), .ref a2, .int n2, .ref a3, .ref a4, .int n3])), (a1, .inl (gI g, 200, .inl md_9))] H := hP
      have hD : va_D A [(h0, .inr (4, [.ref a1, .int (nI (z_M_one (z_M_addName (z_M_one xs 76) t) 59).length), .ref a2, .int n2, .ref a3, .ref a4, .int n3])), (a1, .inl (gI g, 200, .inl md_9))] := hD
      have e : z_M_addDescriptor xs t sl = (z_M_one (z_M_addName (z_M_one xs 76) t) 59) := by rw [z_M_addDescriptor, if_pos c_2, if_pos c_7]
      exact ret_v hx hb hr hlk (hP.sub (ws' := [(h0, .inr (4, [.ref a1, .int (nI (z_M_one (z_M_addName (z_M_one xs 76) t) 59).length), .ref a2, .int n2, .ref a3, .ref a4, .int n3])), (a1, .inl (gI g, 200, .inl md_9))]) [0, 1] rfl) (hD.sub (ws' := [(h0, .inr (4, [.ref a1, .int (nI (z_M_one (z_M_addName (z_M_one xs 76) t) 59).length), .ref a2, .int n2, .ref a3, .ref a4, .int n3])), (a1, .inl (gI g, 200, .inl md_9))]) [0, 1] rfl rfl) hS ⟨md_9, by rw [e], by rw [e]; exact hm_9, by rw [e]; omega, by rw [e]; omega⟩ (by first | exact Nat.le_of_ble_eq_true rfl | (dsimp only; omega) | omega) (by first | exact Nat.le_of_ble_eq_true rfl | (dsimp only; omega) | omega) d_M_addDescriptor_81
    refine lp_M_addDescriptor c_7 hx hb hF hA G (z_M_addName (z_M_one xs 76) t) hm_6.1 (z_M_one xs 76).length (fun md_10 hm_10 H locs ls hP hD hS hl => ?_) ((z_M_addName (z_M_one xs 76) t).length - (z_M_one xs 76).length) (z_M_one xs 76).length _ md_6 (by omega) (by first | rfl | decide) (Nat.le_refl _) (by rw [rpf_0]; exact hm_6) _ _ (hP.sub (ws' := [(h0, .inr (4, [.ref a1, .int (nI (z_M_addName (z_M_one xs 76) t).length), .ref a2, .int n2, .ref a3, .ref a4, .int n3])), (a1, .inl (gI g, 200, .inl md_6))]) [0, 1] rfl) (hD.sub (ws' := [(h0, .inr (4, [.ref a1, .int (nI (z_M_addName (z_M_one xs 76) t).length), .ref a2, .int n2, .ref a3, .ref a4, .int n3])), (a1, .inl (gI g, 200, .inl md_6))]) [0, 1] rfl rfl) hS _ (lv_sub hl [0, 2, 3, 4] rfl)
    have hn_10 := rpf_len (z_M_one xs 76).length (z_M_addName (z_M_one xs 76) t).length 46 47 (z_M_addName (z_M_one xs 76) t) 0
    rw [← hn_10] at hP hD
    have hP : va_P (gD g) classes [(h0, .inr (4, [.ref a1, .int (nI (rpf (z_M_one xs 76).length (z_M_addName (z_M_one xs 76) t).length 46 47 0 (z_M_addName (z_M_one xs 76) t)).length), .ref a2, .int n2, .ref a3, .ref a4, .int n3])), (a1, .inl (gI g, 200, .inl md_10))] H := hP
    have hD : va_D A [(h0, .inr (4, [.ref a1, .int (nI (rpf (z_M_one xs 76).length (z_M_addName (z_M_one xs 76) t).length 46 47 0 (z_M_addName (z_M_one xs 76) t)).length), .ref a2, .int n2, .ref a3, .ref a4, .int n3])), (a1, .inl (gI g, 200, .inl md_10))] := hD
    refine lv_aload_n hx hb d_M_addDescriptor_75 rfl (lv_at hl 0 rfl) ?_
    refine lv_bipush (v := 59) hx hb d_M_addDescriptor_76 (by decide) ?_
    refine go_v (wr := []) (run_V hF (c_M_one g l _ h0 a1 a2 a3 a4 n2 n3 (rpf (z_M_one xs 76).length (z_M_addName (z_M_one xs 76) t).length 46 47 0 (z_M_addName (z_M_one xs 76) t)) md_10 hm_10 59 (by omega)) k_M_one j_M_79 se_M_M_one (va_recv hK hP (ci := 4) (q0 := 0) rfl rfl) (cw_down G hP hD hS hA [0, 1] rfl rfl) ⟨Nat.le_of_ble_eq_true rfl, Nat.le_of_ble_eq_true rfl⟩ rfl hl.1 (Nat.le_of_ble_eq_true rfl) d_M_addDescriptor_78 ⟨(by first | exact Nat.le_of_ble_eq_true rfl | (dsimp only; omega) | omega), (by first | exact Nat.le_of_ble_eq_true rfl | (dsimp only; omega) | omega)⟩) hP hD hS hA [0, 1] [] rfl rfl rfl (by decide) (fun w1 H locs hp hP hD hS => ?_)
    obtain ⟨md_12, rfl, hm_12, hn_12, hn_12b⟩ := hp
    have hP : va_P (gD g) classes [(h0, .inr (4, [.ref a1, .int (nI (z_M_one (rpf (z_M_one xs 76).length (z_M_addName (z_M_one xs 76) t).length 46 47 0 (z_M_addName (z_M_one xs 76) t)) 59).length), .ref a2, .int n2, .ref a3, .ref a4, .int n3])), (a1, .inl (gI g, 200, .inl md_12))] H := hP
    have hD : va_D A [(h0, .inr (4, [.ref a1, .int (nI (z_M_one (rpf (z_M_one xs 76).length (z_M_addName (z_M_one xs 76) t).length 46 47 0 (z_M_addName (z_M_one xs 76) t)) 59).length), .ref a2, .int n2, .ref a3, .ref a4, .int n3])), (a1, .inl (gI g, 200, .inl md_12))] := hD
    have e : z_M_addDescriptor xs t sl = (z_M_one (rpf (z_M_one xs 76).length (z_M_addName (z_M_one xs 76) t).length 46 47 0 (z_M_addName (z_M_one xs 76) t)) 59) := by rw [z_M_addDescriptor, if_pos c_2, if_neg c_7]
    exact ret_v hx hb hr hlk (hP.sub (ws' := [(h0, .inr (4, [.ref a1, .int (nI (z_M_one (rpf (z_M_one xs 76).length (z_M_addName (z_M_one xs 76) t).length 46 47 0 (z_M_addName (z_M_one xs 76) t)) 59).length), .ref a2, .int n2, .ref a3, .ref a4, .int n3])), (a1, .inl (gI g, 200, .inl md_12))]) [0, 1] rfl) (hD.sub (ws' := [(h0, .inr (4, [.ref a1, .int (nI (z_M_one (rpf (z_M_one xs 76).length (z_M_addName (z_M_one xs 76) t).length 46 47 0 (z_M_addName (z_M_one xs 76) t)) 59).length), .ref a2, .int n2, .ref a3, .ref a4, .int n3])), (a1, .inl (gI g, 200, .inl md_12))]) [0, 1] rfl rfl) hS ⟨md_12, by rw [e], by rw [e]; exact hm_12, by rw [e]; omega, by rw [e]; omega⟩ (by first | exact Nat.le_of_ble_eq_true rfl | (dsimp only; omega) | omega) (by first | exact Nat.le_of_ble_eq_true rfl | (dsimp only; omega) | omega) d_M_addDescriptor_81
  · skip
    refine lv_aload_n hx hb d_M_addDescriptor_7 rfl (lv_at hl 0 rfl) ?_
    refine lv_iload_n hx hb d_M_addDescriptor_8 rfl (lv_at hl 1 rfl) ?_
    refine go_i (wr := [(h0, .inr (4, [.ref a1, .int (nI xs.length), .ref a2, .int n2, .ref a3, .ref a4, .int n3])), (a1, .inl (gI g, 200, .inl md))]) (run_S hF (c_M_sign g l _ t (m_prim c_2)) k_M_sign j_M_106 (cw_down G hP hD hS hA [] rfl rfl) ⟨Nat.le_of_ble_eq_true rfl, Nat.le_of_ble_eq_true rfl⟩ rfl hl.1 (Nat.le_of_ble_eq_true rfl) d_M_addDescriptor_9 ⟨(by first | exact Nat.le_of_ble_eq_true rfl | (dsimp only; omega) | omega), (by first | exact Nat.le_of_ble_eq_true rfl | (dsimp only; omega) | omega)⟩) hP hD hS hA [] [0, 1] rfl rfl rfl (by decide) (fun r_13 w1 H locs hp hP hD hS => ?_)
    obtain ⟨rfl, rfl⟩ := hp
    have hP : va_P (gD g) classes [(h0, .inr (4, [.ref a1, .int (nI xs.length), .ref a2, .int n2, .ref a3, .ref a4, .int n3])), (a1, .inl (gI g, 200, .inl md))] H := hP
    have hD : va_D A [(h0, .inr (4, [.ref a1, .int (nI xs.length), .ref a2, .int n2, .ref a3, .ref a4, .int n3])), (a1, .inl (gI g, 200, .inl md))] := hD
    refine go_v (wr := []) (run_V hF (c_M_one g l _ h0 a1 a2 a3 a4 n2 n3 xs md hm (f_M_sign t) (by omega)) k_M_one j_M_79 se_M_M_one (va_recv hK hP (ci := 4) (q0 := 0) rfl rfl) (cw_down G hP hD hS hA [0, 1] rfl rfl) ⟨Nat.le_of_ble_eq_true rfl, Nat.le_of_ble_eq_true rfl⟩ rfl hl.1 (Nat.le_of_ble_eq_true rfl) d_M_addDescriptor_12 ⟨(by first | exact Nat.le_of_ble_eq_true rfl | (dsimp only; omega) | omega), (by first | exact Nat.le_of_ble_eq_true rfl | (dsimp only; omega) | omega)⟩) hP hD hS hA [0, 1] [] rfl rfl rfl (by decide) (fun w1 H locs hp hP hD hS => ?_)
    obtain ⟨md_15, rfl, hm_15, hn_15, hn_15b⟩ := hp
    have hP : va_P (gD g) classes [(h0, .inr (4, [.ref a1, .int (nI (z_M_one xs (f_M_sign t)).length), .ref a2, .int n2, .ref a3, .ref a4, .int n3])), (a1, .inl (gI g, 200, .inl md_15))] H := hP
    have hD : va_D A [(h0, .inr (4, [.ref a1, .int (nI (z_M_one xs (f_M_sign t)).length), .ref a2, .int n2, .ref a3, .ref a4, .int n3])), (a1, .inl (gI g, 200, .inl md_15))] := hD
    have e : z_M_addDescriptor xs t sl = (z_M_one xs (f_M_sign t)) := by rw [z_M_addDescriptor, if_neg c_2]
    exact ret_v hx hb hr hlk (hP.sub (ws' := [(h0, .inr (4, [.ref a1, .int (nI (z_M_one xs (f_M_sign t)).length), .ref a2, .int n2, .ref a3, .ref a4, .int n3])), (a1, .inl (gI g, 200, .inl md_15))]) [0, 1] rfl) (hD.sub (ws' := [(h0, .inr (4, [.ref a1, .int (nI (z_M_one xs (f_M_sign t)).length), .ref a2, .int n2, .ref a3, .ref a4, .int n3])), (a1, .inl (gI g, 200, .inl md_15))]) [0, 1] rfl rfl) hS ⟨md_15, by rw [e], by rw [e]; exact hm_15, by rw [e]; omega, by rw [e]; omega⟩ (by first | exact Nat.le_of_ble_eq_true rfl | (dsimp only; omega) | omega) (by first | exact Nat.le_of_ble_eq_true rfl | (dsimp only; omega) | omega) d_M_addDescriptor_15
def z_M_addWhole (xs : List Int32) (t : Int32) : List Int32 := (if (f_M_levels t) ≤ 0 then (z_M_addName xs (f_M_plain t)) else (if (f_M_levels t) ≤ 1 then (z_M_addDescriptor (z_M_one xs 91) (f_M_plain t) 0) else (z_M_addDescriptor (z_M_one (z_M_one xs 91) 91) (f_M_plain t) 0)))
set_option maxRecDepth 100000 in
theorem k_M_addWhole : ck y_M_addWhole b_M_addWhole 4 (none) 1 (.instanceMethod y_M_addWhole) := ⟨tk_of (List.mem_of_getElem? (i := 712) rfl) rfl, tk_of (List.mem_of_getElem? (i := 711) (by decide +kernel)) rfl, tk_of (List.mem_of_getElem? (i := 43) (by decide +kernel)) rfl, by decide +kernel⟩
theorem j_M_144 : Cond.methodLink R_M 144 y_M_addDescriptor ∈ tk := tk_of (List.mem_of_getElem? (i := 720) (by decide +kernel)) rfl
theorem se_M_M_addDescriptor : Cond.selects R_M y_M_addDescriptor y_M_addDescriptor ∈ tk := tk_of (List.mem_of_getElem? (i := 23) (by decide +kernel)) rfl
set_option maxHeartbeats 4000000 in
set_option maxRecDepth 100000 in
theorem c_M_addWhole (g : gT) (l : Launch) (sz : Nat) (h0 a1 a2 a3 a4 : Nat) (n2 n3 : Int32) (xs : List Int32) (md : Nat → Int32) (hm : mt xs md) (t : Int32) (hlen : xs.length + 71 ≤ 200) (hL : f_M_levels t ≤ 2) : Mg g l y_M_addWhole b_M_addWhole 4 (none) 5 111 1 9 [.ref h0, .int t] [(h0, .inr (4, [.ref a1, .int (nI xs.length), .ref a2, .int n2, .ref a3, .ref a4, .int n3])), (a1, .inl (gI g, 200, .inl md))] sz (qV g (fun w1 => ∃ md' : Nat → Int32, w1 = [(h0, .inr (4, [.ref a1, .int (nI (z_M_addWhole xs t).length), .ref a2, .int n2, .ref a3, .ref a4, .int n3])), (a1, .inl (gI g, 200, .inl md'))] ∧ mt (z_M_addWhole xs t) md' ∧ (z_M_addWhole xs t).length ≤ xs.length + 71 ∧ xs.length ≤ (z_M_addWhole xs t).length)) := by
  refine mg_of (by decide) (Nat.le_of_ble_eq_true rfl) ?_
  intro p e s m below meth c ls A hx hb hF hr hlk hnm hA G hP hD hS hl
  have hK := G.2.1
  have hN := G.1
  have hl : lv_has ls 4 [(0, .ref h0), (1, .int t)] := hl
  refine lv_iload_n hx hb d_M_addWhole_0 rfl (lv_at hl 1 rfl) ?_
  refine pm_callE hF hN (c_M_plain l t) k_M_plain j_M_141 ⟨Nat.le_of_ble_eq_true rfl, Nat.le_of_ble_eq_true rfl⟩ rfl hl.1 (Nat.le_of_ble_eq_true rfl) d_M_addWhole_1 ⟨by first | omega | exact Nat.zero_le _, by first | omega | exact Nat.zero_le _⟩ ?_
  refine lv_istore_n (lv' := [(2, .int (f_M_plain t)), (0, .ref h0), (1, .int t)]) hx hb d_M_addWhole_4 rfl hl (by decide) rfl (fun ls hl => ?_)
  refine lv_iconst (v := 0) hx hb d_M_addWhole_5 (by decide) ?_
  refine lv_istore_n (lv' := [(3, .int 0), (2, .int (f_M_plain t)), (0, .ref h0), (1, .int t)]) hx hb d_M_addWhole_6 rfl hl (by decide) rfl (fun ls hl => ?_)
  refine lv_iload_n hx hb d_M_addWhole_7 rfl (lv_at hl 0 rfl) ?_
  refine lv_iload_n hx hb d_M_addWhole_8 rfl (lv_at hl 3 rfl) ?_
  refine pm_callE hF hN (c_M_levels l t) k_M_levels j_M_113 ⟨Nat.le_of_ble_eq_true rfl, Nat.le_of_ble_eq_true rfl⟩ rfl hl.1 (Nat.le_of_ble_eq_true rfl) d_M_addWhole_9 ⟨by first | omega | exact Nat.zero_le _, by first | omega | exact Nat.zero_le _⟩ ?_
  refine lv_icmp_ge (tgt := 27) hx hb d_M_addWhole_12 (by decide) (fun c_3 => ?_) (fun c_3 => ?_)
  · skip
    refine lv_iload_n hx hb d_M_addWhole_27 rfl (lv_at hl 3 rfl) ?_
    refine pm_callE hF hN (c_M_levels l t) k_M_levels j_M_113 ⟨Nat.le_of_ble_eq_true rfl, Nat.le_of_ble_eq_true rfl⟩ rfl hl.1 (Nat.le_of_ble_eq_true rfl) d_M_addWhole_28 ⟨by first | omega | exact Nat.zero_le _, by first | omega | exact Nat.zero_le _⟩ ?_
    refine lv_if_le (tgt := 43) hx hb d_M_addWhole_31 (by decide) (fun c_5 => ?_) (fun c_5 => ?_)
    · skip
      refine lv_aload_n hx hb d_M_addWhole_43 rfl (lv_at hl 2 rfl) ?_
      refine lv_iload_n hx hb d_M_addWhole_44 rfl (lv_at hl 1 rfl) ?_
      refine go_v (wr := []) (run_V hF (c_M_addName g l _ h0 a1 a2 a3 a4 n2 n3 xs md hm (f_M_plain t) (by omega)) k_M_addName j_M_110 se_M_M_addName (va_recv hK hP (ci := 4) (q0 := 0) rfl rfl) (cw_down G hP hD hS hA [0, 1] rfl rfl) ⟨Nat.le_of_ble_eq_true rfl, Nat.le_of_ble_eq_true rfl⟩ rfl hl.1 (Nat.le_of_ble_eq_true rfl) d_M_addWhole_45 ⟨(by first | exact Nat.le_of_ble_eq_true rfl | (dsimp only; omega) | omega), (by first | exact Nat.le_of_ble_eq_true rfl | (dsimp only; omega) | omega)⟩) hP hD hS hA [0, 1] [] rfl rfl rfl (by decide) (fun w1 H locs hp hP hD hS => ?_)
      obtain ⟨md_7, rfl, hm_7, hn_7, hn_7b⟩ := hp
      have hP : va_P (gD g) classes [(h0, .inr (4, [.ref a1, .int (nI (z_M_addName xs (f_M_plain t)).length), .ref a2, .int n2, .ref a3, .ref a4, .int n3])), (a1, .inl (gI g, 200, .inl md_7))] H := hP
      have hD : va_D A [(h0, .inr (4, [.ref a1, .int (nI (z_M_addName xs (f_M_plain t)).length), .ref a2, .int n2, .ref a3, .ref a4, .int n3])), (a1, .inl (gI g, 200, .inl md_7))] := hD
      have e : z_M_addWhole xs t = (z_M_addName xs (f_M_plain t)) := by rw [z_M_addWhole, if_pos c_3]
      exact ret_v hx hb hr hlk (hP.sub (ws' := [(h0, .inr (4, [.ref a1, .int (nI (z_M_addName xs (f_M_plain t)).length), .ref a2, .int n2, .ref a3, .ref a4, .int n3])), (a1, .inl (gI g, 200, .inl md_7))]) [0, 1] rfl) (hD.sub (ws' := [(h0, .inr (4, [.ref a1, .int (nI (z_M_addName xs (f_M_plain t)).length), .ref a2, .int n2, .ref a3, .ref a4, .int n3])), (a1, .inl (gI g, 200, .inl md_7))]) [0, 1] rfl rfl) hS ⟨md_7, by rw [e], by rw [e]; exact hm_7, by rw [e]; omega, by rw [e]; omega⟩ (by first | exact Nat.le_of_ble_eq_true rfl | (dsimp only; omega) | omega) (by first | exact Nat.le_of_ble_eq_true rfl | (dsimp only; omega) | omega) d_M_addWhole_48
    · exact absurd c_3 c_5
  · skip
    refine lv_aload_n hx hb d_M_addWhole_15 rfl (lv_at hl 2 rfl) ?_
    refine lv_bipush (v := 91) hx hb d_M_addWhole_16 (by decide) ?_
    refine go_v (wr := []) (run_V hF (c_M_one g l _ h0 a1 a2 a3 a4 n2 n3 xs md hm 91 (by omega)) k_M_one j_M_79 se_M_M_one (va_recv hK hP (ci := 4) (q0 := 0) rfl rfl) (cw_down G hP hD hS hA [0, 1] rfl rfl) ⟨Nat.le_of_ble_eq_true rfl, Nat.le_of_ble_eq_true rfl⟩ rfl hl.1 (Nat.le_of_ble_eq_true rfl) d_M_addWhole_18 ⟨(by first | exact Nat.le_of_ble_eq_true rfl | (dsimp only; omega) | omega), (by first | exact Nat.le_of_ble_eq_true rfl | (dsimp only; omega) | omega)⟩) hP hD hS hA [0, 1] [] rfl rfl rfl (by decide) (fun w1 H locs hp hP hD hS => ?_)
    obtain ⟨md_9, rfl, hm_9, hn_9, hn_9b⟩ := hp
    have hP : va_P (gD g) classes [(h0, .inr (4, [.ref a1, .int (nI (z_M_one xs 91).length), .ref a2, .int n2, .ref a3, .ref a4, .int n3])), (a1, .inl (gI g, 200, .inl md_9))] H := hP
    have hD : va_D A [(h0, .inr (4, [.ref a1, .int (nI (z_M_one xs 91).length), .ref a2, .int n2, .ref a3, .ref a4, .int n3])), (a1, .inl (gI g, 200, .inl md_9))] := hD
    refine lv_iinc (v := 1) (lv' := [(3, .int 1), (2, .int (f_M_plain t)), (0, .ref h0), (1, .int t)]) hx hb d_M_addWhole_21 hl (k := 0) rfl (by first | rfl | decide) (by decide) rfl (fun ls hl => ?_)
    refine lv_goto (tgt := 7) hx hb d_M_addWhole_24 (by decide) ?_
    refine lv_iload_n hx hb d_M_addWhole_7 rfl (lv_at hl 0 rfl) ?_
    refine lv_iload_n hx hb d_M_addWhole_8 rfl (lv_at hl 3 rfl) ?_
    refine pm_callE hF hN (c_M_levels l t) k_M_levels j_M_113 ⟨Nat.le_of_ble_eq_true rfl, Nat.le_of_ble_eq_true rfl⟩ rfl hl.1 (Nat.le_of_ble_eq_true rfl) d_M_addWhole_9 ⟨by first | omega | exact Nat.zero_le _, by first | omega | exact Nat.zero_le _⟩ ?_
    refine lv_icmp_ge (tgt := 27) hx hb d_M_addWhole_12 (by decide) (fun c_11 => ?_) (fun c_11 => ?_)
    · skip
      refine lv_iload_n hx hb d_M_addWhole_27 rfl (lv_at hl 3 rfl) ?_
      refine pm_callE hF hN (c_M_levels l t) k_M_levels j_M_113 ⟨Nat.le_of_ble_eq_true rfl, Nat.le_of_ble_eq_true rfl⟩ rfl hl.1 (Nat.le_of_ble_eq_true rfl) d_M_addWhole_28 ⟨by first | omega | exact Nat.zero_le _, by first | omega | exact Nat.zero_le _⟩ ?_
      refine lv_if_le (tgt := 43) hx hb d_M_addWhole_31 (by decide) (fun c_13 => ?_) (fun c_13 => ?_)
      · exact absurd c_13 c_3
      · skip
        refine lv_aload_n hx hb d_M_addWhole_34 rfl (lv_at hl 2 rfl) ?_
        refine lv_iload_n hx hb d_M_addWhole_35 rfl (lv_at hl 1 rfl) ?_
        refine lv_iconst (v := 0) hx hb d_M_addWhole_36 (by decide) ?_
        refine go_v (wr := []) (run_V hF (c_M_addDescriptor g l _ h0 a1 a2 a3 a4 n2 n3 (z_M_one xs 91) md_9 hm_9 (f_M_plain t) 0 (by omega)) k_M_addDescriptor j_M_144 se_M_M_addDescriptor (va_recv hK hP (ci := 4) (q0 := 0) rfl rfl) (cw_down G hP hD hS hA [0, 1] rfl rfl) ⟨Nat.le_of_ble_eq_true rfl, Nat.le_of_ble_eq_true rfl⟩ rfl hl.1 (Nat.le_of_ble_eq_true rfl) d_M_addWhole_37 ⟨(by first | exact Nat.le_of_ble_eq_true rfl | (dsimp only; omega) | omega), (by first | exact Nat.le_of_ble_eq_true rfl | (dsimp only; omega) | omega)⟩) hP hD hS hA [0, 1] [] rfl rfl rfl (by decide) (fun w1 H locs hp hP hD hS => ?_)
        obtain ⟨md_15, rfl, hm_15, hn_15, hn_15b⟩ := hp
        have hP : va_P (gD g) classes [(h0, .inr (4, [.ref a1, .int (nI (z_M_addDescriptor (z_M_one xs 91) (f_M_plain t) 0).length), .ref a2, .int n2, .ref a3, .ref a4, .int n3])), (a1, .inl (gI g, 200, .inl md_15))] H := hP
        have hD : va_D A [(h0, .inr (4, [.ref a1, .int (nI (z_M_addDescriptor (z_M_one xs 91) (f_M_plain t) 0).length), .ref a2, .int n2, .ref a3, .ref a4, .int n3])), (a1, .inl (gI g, 200, .inl md_15))] := hD
        refine lv_goto (tgt := 48) hx hb d_M_addWhole_40 (by decide) ?_
        have e : z_M_addWhole xs t = (z_M_addDescriptor (z_M_one xs 91) (f_M_plain t) 0) := by rw [z_M_addWhole, if_neg c_3, if_pos c_11]
        exact ret_v hx hb hr hlk (hP.sub (ws' := [(h0, .inr (4, [.ref a1, .int (nI (z_M_addDescriptor (z_M_one xs 91) (f_M_plain t) 0).length), .ref a2, .int n2, .ref a3, .ref a4, .int n3])), (a1, .inl (gI g, 200, .inl md_15))]) [0, 1] rfl) (hD.sub (ws' := [(h0, .inr (4, [.ref a1, .int (nI (z_M_addDescriptor (z_M_one xs 91) (f_M_plain t) 0).length), .ref a2, .int n2, .ref a3, .ref a4, .int n3])), (a1, .inl (gI g, 200, .inl md_15))]) [0, 1] rfl rfl) hS ⟨md_15, by rw [e], by rw [e]; exact hm_15, by rw [e]; omega, by rw [e]; omega⟩ (by first | exact Nat.le_of_ble_eq_true rfl | (dsimp only; omega) | omega) (by first | exact Nat.le_of_ble_eq_true rfl | (dsimp only; omega) | omega) d_M_addWhole_48
    · skip
      refine lv_aload_n hx hb d_M_addWhole_15 rfl (lv_at hl 2 rfl) ?_
      refine lv_bipush (v := 91) hx hb d_M_addWhole_16 (by decide) ?_
      refine go_v (wr := []) (run_V hF (c_M_one g l _ h0 a1 a2 a3 a4 n2 n3 (z_M_one xs 91) md_9 hm_9 91 (by omega)) k_M_one j_M_79 se_M_M_one (va_recv hK hP (ci := 4) (q0 := 0) rfl rfl) (cw_down G hP hD hS hA [0, 1] rfl rfl) ⟨Nat.le_of_ble_eq_true rfl, Nat.le_of_ble_eq_true rfl⟩ rfl hl.1 (Nat.le_of_ble_eq_true rfl) d_M_addWhole_18 ⟨(by first | exact Nat.le_of_ble_eq_true rfl | (dsimp only; omega) | omega), (by first | exact Nat.le_of_ble_eq_true rfl | (dsimp only; omega) | omega)⟩) hP hD hS hA [0, 1] [] rfl rfl rfl (by decide) (fun w1 H locs hp hP hD hS => ?_)
      obtain ⟨md_17, rfl, hm_17, hn_17, hn_17b⟩ := hp
      have hP : va_P (gD g) classes [(h0, .inr (4, [.ref a1, .int (nI (z_M_one (z_M_one xs 91) 91).length), .ref a2, .int n2, .ref a3, .ref a4, .int n3])), (a1, .inl (gI g, 200, .inl md_17))] H := hP
      have hD : va_D A [(h0, .inr (4, [.ref a1, .int (nI (z_M_one (z_M_one xs 91) 91).length), .ref a2, .int n2, .ref a3, .ref a4, .int n3])), (a1, .inl (gI g, 200, .inl md_17))] := hD
      refine lv_iinc (v := 2) (lv' := [(3, .int 2), (2, .int (f_M_plain t)), (0, .ref h0), (1, .int t)]) hx hb d_M_addWhole_21 hl (k := 0) rfl (by first | rfl | decide) (by decide) rfl (fun ls hl => ?_)
      refine lv_goto (tgt := 7) hx hb d_M_addWhole_24 (by decide) ?_
      refine lv_iload_n hx hb d_M_addWhole_7 rfl (lv_at hl 0 rfl) ?_
      refine lv_iload_n hx hb d_M_addWhole_8 rfl (lv_at hl 3 rfl) ?_
      refine pm_callE hF hN (c_M_levels l t) k_M_levels j_M_113 ⟨Nat.le_of_ble_eq_true rfl, Nat.le_of_ble_eq_true rfl⟩ rfl hl.1 (Nat.le_of_ble_eq_true rfl) d_M_addWhole_9 ⟨by first | omega | exact Nat.zero_le _, by first | omega | exact Nat.zero_le _⟩ ?_
      refine lv_icmp_ge (tgt := 27) hx hb d_M_addWhole_12 (by decide) (fun c_19 => ?_) (fun c_19 => absurd hL c_19)
      refine lv_iload_n hx hb d_M_addWhole_27 rfl (lv_at hl 3 rfl) ?_
      refine pm_callE hF hN (c_M_levels l t) k_M_levels j_M_113 ⟨Nat.le_of_ble_eq_true rfl, Nat.le_of_ble_eq_true rfl⟩ rfl hl.1 (Nat.le_of_ble_eq_true rfl) d_M_addWhole_28 ⟨by first | omega | exact Nat.zero_le _, by first | omega | exact Nat.zero_le _⟩ ?_
      refine lv_if_le (tgt := 43) hx hb d_M_addWhole_31 (by decide) (fun c_21 => ?_) (fun c_21 => ?_)
      · exact absurd c_21 c_3
      · skip
        refine lv_aload_n hx hb d_M_addWhole_34 rfl (lv_at hl 2 rfl) ?_
        refine lv_iload_n hx hb d_M_addWhole_35 rfl (lv_at hl 1 rfl) ?_
        refine lv_iconst (v := 0) hx hb d_M_addWhole_36 (by decide) ?_
        refine go_v (wr := []) (run_V hF (c_M_addDescriptor g l _ h0 a1 a2 a3 a4 n2 n3 (z_M_one (z_M_one xs 91) 91) md_17 hm_17 (f_M_plain t) 0 (by omega)) k_M_addDescriptor j_M_144 se_M_M_addDescriptor (va_recv hK hP (ci := 4) (q0 := 0) rfl rfl) (cw_down G hP hD hS hA [0, 1] rfl rfl) ⟨Nat.le_of_ble_eq_true rfl, Nat.le_of_ble_eq_true rfl⟩ rfl hl.1 (Nat.le_of_ble_eq_true rfl) d_M_addWhole_37 ⟨(by first | exact Nat.le_of_ble_eq_true rfl | (dsimp only; omega) | omega), (by first | exact Nat.le_of_ble_eq_true rfl | (dsimp only; omega) | omega)⟩) hP hD hS hA [0, 1] [] rfl rfl rfl (by decide) (fun w1 H locs hp hP hD hS => ?_)
        obtain ⟨md_23, rfl, hm_23, hn_23, hn_23b⟩ := hp
        have hP : va_P (gD g) classes [(h0, .inr (4, [.ref a1, .int (nI (z_M_addDescriptor (z_M_one (z_M_one xs 91) 91) (f_M_plain t) 0).length), .ref a2, .int n2, .ref a3, .ref a4, .int n3])), (a1, .inl (gI g, 200, .inl md_23))] H := hP
        have hD : va_D A [(h0, .inr (4, [.ref a1, .int (nI (z_M_addDescriptor (z_M_one (z_M_one xs 91) 91) (f_M_plain t) 0).length), .ref a2, .int n2, .ref a3, .ref a4, .int n3])), (a1, .inl (gI g, 200, .inl md_23))] := hD
        refine lv_goto (tgt := 48) hx hb d_M_addWhole_40 (by decide) ?_
        have e : z_M_addWhole xs t = (z_M_addDescriptor (z_M_one (z_M_one xs 91) 91) (f_M_plain t) 0) := by rw [z_M_addWhole, if_neg c_3, if_neg c_11]
        exact ret_v hx hb hr hlk (hP.sub (ws' := [(h0, .inr (4, [.ref a1, .int (nI (z_M_addDescriptor (z_M_one (z_M_one xs 91) 91) (f_M_plain t) 0).length), .ref a2, .int n2, .ref a3, .ref a4, .int n3])), (a1, .inl (gI g, 200, .inl md_23))]) [0, 1] rfl) (hD.sub (ws' := [(h0, .inr (4, [.ref a1, .int (nI (z_M_addDescriptor (z_M_one (z_M_one xs 91) 91) (f_M_plain t) 0).length), .ref a2, .int n2, .ref a3, .ref a4, .int n3])), (a1, .inl (gI g, 200, .inl md_23))]) [0, 1] rfl rfl) hS ⟨md_23, by rw [e], by rw [e]; exact hm_23, by rw [e]; omega, by rw [e]; omega⟩ (by first | exact Nat.le_of_ble_eq_true rfl | (dsimp only; omega) | omega) (by first | exact Nat.le_of_ble_eq_true rfl | (dsimp only; omega) | omega) d_M_addWhole_48
