theorem m_levd : ∀ j : Nat, j < 120 → f_M_isType (nI j) = 0 ∨ f_M_levels (nI j) ≤ 2 := by decide +kernel
theorem m_lev {t : Int32} (h : ¬ f_M_isType t = 0) : f_M_levels t ≤ 2 := by
  obtain ⟨j, hj, rfl⟩ := isT_nI h
  exact (m_levd j hj).resolve_left h
theorem mt_nil (md : Nat → Int32) : mt [] md := ⟨by decide, fun i hi => absurd hi (by simp)⟩
theorem m_ix {i : Int32} {n : Nat} (hn : n ≤ 200) (h0 : ¬ i < 0) (h1 : i < nI n) : vp_in i 200 ∧ i.toNatClampNeg < n := by
  obtain ⟨j, hj, rfl⟩ := nI_of h0
  have h2 := (nI_ltI hj (b := n) (by omega)).mp h1
  exact ⟨vp_in_nI (by omega) (by decide), by rw [nI_clamp hj]; exact h2⟩

set_option maxHeartbeats 4000000 in
set_option maxRecDepth 100000 in
theorem lp_M_make {p : Program} {l : Launch} {e : Env} {s : State} {m : MethodId} {args : Array Value} {below : List Frame} {meth : Method} {c : Code} {g : gT} {A : Nat → Prop} {Q : State → Prop} {R : Room} {cells slots : Nat} {h0 a1 a2 a3 a4 : Nat} {n2 n3 t : Int32} {wh pt : Int32} (hx : p.tables.exec = Jvm.exec) (hb : c.code = b_M_make) (hF : CallFix p m c b_M_make 5 s args tk R_M) (hA : ∀ q, s.heap.size ≤ q → A q) (G : Gx g A s s.heap) (L : List Int32) (hL : L.length ≤ 200) (k : Nat)
    (hend : ∀ (md : Nat → Int32), mt (rpf k L.length 36 46 0 L) md → ∀ (H : Heap) (locs : List Loc) (ls : Array Slot), va_P (gD g) classes [(h0, .inr (4, [.ref a1, .int (nI L.length), .ref a2, .int n2, .ref a3, .ref a4, .int n3])), (a1, .inl (gI g, 200, .inl md))] H → va_D A [(h0, .inr (4, [.ref a1, .int (nI L.length), .ref a2, .int n2, .ref a3, .ref a4, .int n3])), (a1, .inl (gI g, 200, .inl md))] → va_S A s.heap H locs → lv_has ls 5 [(0, .ref h0), (1, .int t), (2, .int wh), (3, .int pt)] → W p l e R s m args below meth c H locs cells slots Q (F0 m 122 ls [])) :
    ∀ (d i : Nat) (x : Int32) (md : Nat → Int32), i + d = L.length → x = nI i → k ≤ i → mt (rpf k i 36 46 0 L) md → ∀ (H : Heap) (locs : List Loc), va_P (gD g) classes [(h0, .inr (4, [.ref a1, .int (nI L.length), .ref a2, .int n2, .ref a3, .ref a4, .int n3])), (a1, .inl (gI g, 200, .inl md))] H → va_D A [(h0, .inr (4, [.ref a1, .int (nI L.length), .ref a2, .int n2, .ref a3, .ref a4, .int n3])), (a1, .inl (gI g, 200, .inl md))] → va_S A s.heap H locs → ∀ ls : Array Slot, lv_has ls 5 [(4, .int x), (0, .ref h0), (1, .int t), (2, .int wh), (3, .int pt)] → W p l e R s m args below meth c H locs cells slots Q (F0 m 86 ls []) := by
  have hK := G.2.1
  have hN := G.1
  intro d
  induction d with
  | zero =>
    intro i x md hd ex hk hm H locs hP hD hS ls hl
    have hle : nI L.length ≤ x := by rw [ex]; exact nI_le (by omega) (by omega)
    have ei : i = L.length := by omega
    rw [ei] at hm
    refine lv_iload hx hb d_M_make_86 (lv_at hl 0 rfl) ?_
    refine lv_aload_n hx hb d_M_make_88 rfl (lv_at hl 1 rfl) ?_
    refine va_get (D := gD g) (ci := 4) (v := .int (nI L.length)) (C := R_M) (T := F_M) (N := 7) hx hb hF.2.2.2.2 in_M hF.2.2.2.1 hK hP 0 rfl rfl 1 (by decide) (hF.2.2.2.2 _ fl_M_76) (fun _ h9 => h9) rfl d_M_make_89 ?_
    refine lv_icmp_ge (tgt := 122) hx hb d_M_make_92 (by decide) (fun c_1 => ?_) (fun c_1 => absurd hle c_1)
    exact hend md hm H locs ls hP hD hS (lv_sub hl [1, 2, 3, 4] rfl)
  | succ d ih =>
    intro i x md hd ex hk hm H locs hP hD hS ls hl
    have hi : i < L.length := by omega
    have hlt : ¬ nI L.length ≤ x := by rw [ex]; exact nI_ge hi (by omega)
    have hin : vp_in x 200 := by rw [ex]; exact vp_in_nI (by omega) (by decide)
    have ei : x.toNatClampNeg = i := by rw [ex]; exact nI_clamp (by omega)
    refine lv_iload hx hb d_M_make_86 (lv_at hl 0 rfl) ?_
    refine lv_aload_n hx hb d_M_make_88 rfl (lv_at hl 1 rfl) ?_
    refine va_get (D := gD g) (ci := 4) (v := .int (nI L.length)) (C := R_M) (T := F_M) (N := 7) hx hb hF.2.2.2.2 in_M hF.2.2.2.1 hK hP 0 rfl rfl 1 (by decide) (hF.2.2.2.2 _ fl_M_76) (fun _ h9 => h9) rfl d_M_make_89 ?_
    refine lv_icmp_ge (tgt := 122) hx hb d_M_make_92 (by decide) (fun c_1 => absurd c_1 hlt) (fun c_1 => ?_)
    refine lv_aload_n hx hb d_M_make_95 rfl (lv_at hl 1 rfl) ?_
    refine va_get (D := gD g) (ci := 4) (v := .ref a1) (C := R_M) (T := F_M) (N := 7) hx hb hF.2.2.2.2 in_M hF.2.2.2.1 hK hP 0 rfl rfl 0 (by decide) (hF.2.2.2.2 _ fl_M_7) (fun _ h9 => h9) rfl d_M_make_96 ?_
    refine lv_iload hx hb d_M_make_99 (lv_at hl 0 rfl) ?_
    refine va_iald hx hb hK hP 1 0 rfl rfl hin d_M_make_101 ?_
    refine lv_bipush (v := 36) hx hb d_M_make_102 (by decide) ?_
    refine lv_icmp_ne (tgt := 116) hx hb d_M_make_104 (by decide) (fun c_2 => ?_) (fun c_2 => ?_)
    · skip
      refine lv_iinc (v := (x + 1)) (lv' := [(4, .int (x + 1)), (0, .ref h0), (1, .int t), (2, .int wh), (3, .int pt)]) hx hb d_M_make_116 hl (k := 0) rfl (by first | rfl | decide) (by decide) rfl (fun ls hl => ?_)
      refine lv_goto (tgt := 86) hx hb d_M_make_119 (by decide) ?_
      exact ih (i + 1) _ _ (by omega) (by rw [ex]; exact nI_1 i) (by omega) (mt_rp0 hm hi (by rw [← ei]; exact c_2)) _ _ (hP.sub (ws' := [(h0, .inr (4, [.ref a1, .int (nI L.length), .ref a2, .int n2, .ref a3, .ref a4, .int n3])), (a1, .inl (gI g, 200, .inl md))]) [0, 1] rfl) (hD.sub (ws' := [(h0, .inr (4, [.ref a1, .int (nI L.length), .ref a2, .int n2, .ref a3, .ref a4, .int n3])), (a1, .inl (gI g, 200, .inl md))]) [0, 1] rfl rfl) hS _ (lv_sub hl [0, 1, 2, 3, 4] rfl)
    · skip
      refine lv_aload_n hx hb d_M_make_107 rfl (lv_at hl 1 rfl) ?_
      refine va_get (D := gD g) (ci := 4) (v := .ref a1) (C := R_M) (T := F_M) (N := 7) hx hb hF.2.2.2.2 in_M hF.2.2.2.1 hK hP 0 rfl rfl 0 (by decide) (hF.2.2.2.2 _ fl_M_7) (fun _ h9 => h9) rfl d_M_make_108 ?_
      refine lv_iload hx hb d_M_make_111 (lv_at hl 0 rfl) ?_
      refine lv_bipush (v := 46) hx hb d_M_make_113 (by decide) ?_
      refine va_iast hx hb hK hP hD hS 1 0 rfl rfl hin d_M_make_115 (fun H locs hP hD hS => ?_)
      have hP : va_P (gD g) classes [(h0, .inr (4, [.ref a1, .int (nI L.length), .ref a2, .int n2, .ref a3, .ref a4, .int n3])), (a1, .inl (gI g, 200, .inl (upd md (x : Int32).toNatClampNeg 46)))] H := hP
      have hD : va_D A [(h0, .inr (4, [.ref a1, .int (nI L.length), .ref a2, .int n2, .ref a3, .ref a4, .int n3])), (a1, .inl (gI g, 200, .inl (upd md (x : Int32).toNatClampNeg 46)))] := hD
      refine lv_iinc (v := (x + 1)) (lv' := [(4, .int (x + 1)), (0, .ref h0), (1, .int t), (2, .int wh), (3, .int pt)]) hx hb d_M_make_116 hl (k := 0) rfl (by first | rfl | decide) (by decide) rfl (fun ls hl => ?_)
      refine lv_goto (tgt := 86) hx hb d_M_make_119 (by decide) ?_
      exact ih (i + 1) _ _ (by omega) (by rw [ex]; exact nI_1 i) (by omega) (by rw [ei]; exact mt_rp1 hm hk hi (by rw [← ei]; exact c_2)) _ _ (hP.sub (ws' := [(h0, .inr (4, [.ref a1, .int (nI L.length), .ref a2, .int n2, .ref a3, .ref a4, .int n3])), (a1, .inl (gI g, 200, .inl (upd md (x : Int32).toNatClampNeg 46)))]) [0, 1] rfl) (hD.sub (ws' := [(h0, .inr (4, [.ref a1, .int (nI L.length), .ref a2, .int n2, .ref a3, .ref a4, .int n3])), (a1, .inl (gI g, 200, .inl (upd md (x : Int32).toNatClampNeg 46)))]) [0, 1] rfl rfl) hS _ (lv_sub hl [0, 1, 2, 3, 4] rfl)
def zf_M_make (t wh : Int32) : List Int32 × Int32 := (if wh = 0 then ((z_M_addWhole ([] : List Int32) t), (1 : Int32)) else (if wh = 1 then (if (f_M_nameless (f_M_plain t)) = 0 then ((z_M_addTail (z_M_addOwn ([] : List Int32) (f_M_plain t)) t), (1 : Int32)) else ((z_M_addTail ([] : List Int32) t), (1 : Int32))) else (if wh = 2 then (if (f_M_plain t) = 17 then ((z_M_addTail (rpf 0 (z_M_addName ([] : List Int32) (f_M_plain t)).length 36 46 0 (z_M_addName ([] : List Int32) (f_M_plain t))) t), (0 : Int32)) else (if (f_M_plain t) = 23 then ((z_M_addTail (rpf 0 (z_M_addName ([] : List Int32) (f_M_plain t)).length 36 46 0 (z_M_addName ([] : List Int32) (f_M_plain t))) t), (0 : Int32)) else (if (f_M_plain t) = 24 then ((z_M_addTail (rpf 0 (z_M_addName ([] : List Int32) (f_M_plain t)).length 36 46 0 (z_M_addName ([] : List Int32) (f_M_plain t))) t), (0 : Int32)) else ((z_M_addTail (rpf 0 (z_M_addName ([] : List Int32) (f_M_plain t)).length 36 46 0 (z_M_addName ([] : List Int32) (f_M_plain t))) t), (1 : Int32))))) else (if wh = 3 then ((z_M_addTail (z_M_addName ([] : List Int32) (f_M_plain t)) t), (1 : Int32)) else (if wh = 4 then (if 11 ≤ (f_M_plain t) then (([] : List Int32), (1 : Int32)) else ((z_M_add (z_M_add ([] : List Int32) 456901681454) 1818324583), (1 : Int32))) else (if wh = 5 then (if (f_M_isInterface t) = 0 then (if (f_M_primitive t) = 0 then ((z_M_addWhole (z_M_one (z_M_add ([] : List Int32) 427020088179) 32) t), (1 : Int32)) else ((z_M_addWhole ([] : List Int32) t), (1 : Int32))) else (if (f_M_primitive t) = 0 then ((z_M_addWhole (z_M_one (z_M_addWord ([] : List Int32) 1 7597137600480436579 101) 32) t), (1 : Int32)) else ((z_M_addWhole (z_M_addWord ([] : List Int32) 1 7597137600480436579 101) t), (1 : Int32)))) else (if wh = 6 then (if (f_M_levels t) ≤ 0 then ((z_M_addDescriptor ([] : List Int32) (f_M_plain t) 1), (1 : Int32)) else (if (f_M_levels t) ≤ 1 then ((z_M_addDescriptor (z_M_one ([] : List Int32) 91) (f_M_plain t) 1), (1 : Int32)) else ((z_M_addDescriptor (z_M_one (z_M_one ([] : List Int32) 91) 91) (f_M_plain t) 1), (1 : Int32)))) else ((z_M_addModifiers ([] : List Int32) t), (1 : Int32)))))))))
set_option maxRecDepth 100000 in
theorem k_M_make : ck y_M_make b_M_make 5 (some .boolean) 2 (.instanceMethod y_M_make) := ⟨tk_of (List.mem_of_getElem? (i := 705) rfl) rfl, tk_of (List.mem_of_getElem? (i := 704) (by decide +kernel)) rfl, tk_of (List.mem_of_getElem? (i := 43) (by decide +kernel)) rfl, by decide +kernel⟩
theorem j_M_148 : Cond.methodLink R_M 148 y_M_addWhole ∈ tk := tk_of (List.mem_of_getElem? (i := 709) (by decide +kernel)) rfl
theorem se_M_M_addWhole : Cond.selects R_M y_M_addWhole y_M_addWhole ∈ tk := tk_of (List.mem_of_getElem? (i := 21) (by decide +kernel)) rfl
theorem j_M_154 : Cond.methodLink R_M 154 y_M_addTail ∈ tk := tk_of (List.mem_of_getElem? (i := 775) (by decide +kernel)) rfl
theorem se_M_M_addTail : Cond.selects R_M y_M_addTail y_M_addTail ∈ tk := tk_of (List.mem_of_getElem? (i := 27) (by decide +kernel)) rfl
theorem cl_M_157 : Cond.constantLong R_M 157 1818324583 ∈ tk := tk_of (List.mem_of_getElem? (i := 779) (by decide +kernel)) rfl
theorem cl_M_162 : Cond.constantLong R_M 162 427020088179 ∈ tk := tk_of (List.mem_of_getElem? (i := 789) (by decide +kernel)) rfl
theorem j_M_164 : Cond.methodLink R_M 164 y_M_addModifiers ∈ tk := tk_of (List.mem_of_getElem? (i := 790) (by decide +kernel)) rfl
theorem se_M_M_addModifiers : Cond.selects R_M y_M_addModifiers y_M_addModifiers ∈ tk := tk_of (List.mem_of_getElem? (i := 29) (by decide +kernel)) rfl
set_option maxHeartbeats 4000000 in
set_option maxRecDepth 100000 in
theorem c_M_make (g : gT) (l : Launch) (sz : Nat) (h0 a1 a2 a3 a4 : Nat) (n2 n3 : Int32) (xs : List Int32) (md : Nat → Int32) (hm : mt xs md) (t wh : Int32) (hty : ¬ f_M_isType t = 0) : Mg g l y_M_make b_M_make 5 (some .boolean) 6 134 1 16 [.ref h0, .int t, .int wh] [(h0, .inr (4, [.ref a1, .int (nI xs.length), .ref a2, .int n2, .ref a3, .ref a4, .int n3])), (a1, .inl (gI g, 200, .inl md))] sz (qI g (fun r w1 => ∃ md' : Nat → Int32, w1 = [(h0, .inr (4, [.ref a1, .int (nI (zf_M_make t wh).1.length), .ref a2, .int n2, .ref a3, .ref a4, .int n3])), (a1, .inl (gI g, 200, .inl md'))] ∧ mt (zf_M_make t wh).1 md' ∧ r = (zf_M_make t wh).2)) := by
  refine mg_of (by decide) (Nat.le_of_ble_eq_true rfl) ?_
  intro p e s m below meth c ls A hx hb hF hr hlk hnm hA G hP hD hS hl
  have hK := G.2.1
  have hN := G.1
  have hl : lv_has ls 5 [(0, .ref h0), (1, .int t), (2, .int wh)] := hl
  have hL := m_lev hty
  have hnil : ([] : List Int32).length = 0 := rfl
  refine lv_aload_n hx hb d_M_make_0 rfl (lv_at hl 0 rfl) ?_
  refine lv_iconst (v := 0) hx hb d_M_make_1 (by decide) ?_
  refine tp_i (show (0 : Int32) = (nI ([] : List Int32).length) from rfl) ?_
  refine va_put (D := gD g) (ci := 4) (v := .int (nI ([] : List Int32).length)) (ty := .int) (C := R_M) (T := F_M) (N := 7) hx hb hF.2.2.2.2 in_M t_M t_M_ok n_M hF.2.2.2.1 hK hP hD hS 0 rfl rfl 1 (by decide) (hF.2.2.2.2 _ fl_M_76) (fun _ h9 => h9) rfl (by decide +kernel) rfl rfl (Nat.le_of_ble_eq_true rfl) d_M_make_2 (fun H locs hP hD hS => ?_)
  have hP : va_P (gD g) classes [(h0, .inr (4, [.ref a1, .int (nI ([] : List Int32).length), .ref a2, .int n2, .ref a3, .ref a4, .int n3])), (a1, .inl (gI g, 200, .inl md))] H := hP
  have hD : va_D A [(h0, .inr (4, [.ref a1, .int (nI ([] : List Int32).length), .ref a2, .int n2, .ref a3, .ref a4, .int n3])), (a1, .inl (gI g, 200, .inl md))] := hD
  have hm0 := mt_nil md
  refine lv_iload_n hx hb d_M_make_5 rfl (lv_at hl 1 rfl) ?_
  refine pm_callE hF hN (c_M_plain l t) k_M_plain j_M_141 ⟨Nat.le_of_ble_eq_true rfl, Nat.le_of_ble_eq_true rfl⟩ rfl hl.1 (Nat.le_of_ble_eq_true rfl) d_M_make_6 ⟨by first | omega | exact Nat.zero_le _, by first | omega | exact Nat.zero_le _⟩ ?_
  refine lv_istore_n (lv' := [(3, .int (f_M_plain t)), (0, .ref h0), (1, .int t), (2, .int wh)]) hx hb d_M_make_9 rfl hl (by decide) rfl (fun ls hl => ?_)
  refine lv_iload_n hx hb d_M_make_10 rfl (lv_at hl 3 rfl) ?_
  by_cases c_2 : wh = 0
  · refine lv_tableIn (tgt := 52) (off := 41) hx hb d_M_make_11 (by rw [c_2]; decide) (by rw [c_2]; decide) (by rw [c_2]; decide) (by decide) ?_
    refine lv_aload_n hx hb d_M_make_52 rfl (lv_at hl 1 rfl) ?_
    refine lv_iload_n hx hb d_M_make_53 rfl (lv_at hl 2 rfl) ?_
    refine go_v (wr := []) (run_V hF (c_M_addWhole g l _ h0 a1 a2 a3 a4 n2 n3 ([] : List Int32) md hm0 t (by omega) hL) k_M_addWhole j_M_148 se_M_M_addWhole (va_recv hK hP (ci := 4) (q0 := 0) rfl rfl) (cw_down G hP hD hS hA [0, 1] rfl rfl) ⟨Nat.le_of_ble_eq_true rfl, Nat.le_of_ble_eq_true rfl⟩ rfl hl.1 (Nat.le_of_ble_eq_true rfl) d_M_make_54 ⟨(by first | exact Nat.le_of_ble_eq_true rfl | (dsimp only; omega) | omega), (by first | exact Nat.le_of_ble_eq_true rfl | (dsimp only; omega) | omega)⟩) hP hD hS hA [0, 1] [] rfl rfl rfl (by decide) (fun w1 H locs hp hP hD hS => ?_)
    obtain ⟨md_4, rfl, hm_4, hn_4, hn_4b⟩ := hp
    have hP : va_P (gD g) classes [(h0, .inr (4, [.ref a1, .int (nI (z_M_addWhole ([] : List Int32) t).length), .ref a2, .int n2, .ref a3, .ref a4, .int n3])), (a1, .inl (gI g, 200, .inl md_4))] H := hP
    have hD : va_D A [(h0, .inr (4, [.ref a1, .int (nI (z_M_addWhole ([] : List Int32) t).length), .ref a2, .int n2, .ref a3, .ref a4, .int n3])), (a1, .inl (gI g, 200, .inl md_4))] := hD
    refine lv_iconst (v := 1) hx hb d_M_make_57 (by decide) ?_
    have e : zf_M_make t wh = ((z_M_addWhole ([] : List Int32) t), (1 : Int32)) := by rw [zf_M_make, if_pos c_2]
    exact ret_i hx hb hr hlk (hP.sub (ws' := [(h0, .inr (4, [.ref a1, .int (nI (z_M_addWhole ([] : List Int32) t).length), .ref a2, .int n2, .ref a3, .ref a4, .int n3])), (a1, .inl (gI g, 200, .inl md_4))]) [0, 1] rfl) (hD.sub (ws' := [(h0, .inr (4, [.ref a1, .int (nI (z_M_addWhole ([] : List Int32) t).length), .ref a2, .int n2, .ref a3, .ref a4, .int n3])), (a1, .inl (gI g, 200, .inl md_4))]) [0, 1] rfl rfl) hS (by decide) ⟨md_4, by rw [e], by rw [e]; exact hm_4, by rw [e]⟩ (by first | exact Nat.le_of_ble_eq_true rfl | (dsimp only; omega) | omega) (by first | exact Nat.le_of_ble_eq_true rfl | (dsimp only; omega) | omega) d_M_make_58
  by_cases c_5 : wh = 1
  · refine lv_tableIn (tgt := 59) (off := 48) hx hb d_M_make_11 (by rw [c_5]; decide) (by rw [c_5]; decide) (by rw [c_5]; decide) (by decide) ?_
    refine lv_iload_n hx hb d_M_make_59 rfl (lv_at hl 0 rfl) ?_
    refine pm_callE hF hN (c_M_nameless l (f_M_plain t)) k_M_nameless j_M_151 ⟨Nat.le_of_ble_eq_true rfl, Nat.le_of_ble_eq_true rfl⟩ rfl hl.1 (Nat.le_of_ble_eq_true rfl) d_M_make_60 ⟨by first | omega | exact Nat.zero_le _, by first | omega | exact Nat.zero_le _⟩ ?_
    refine lv_if_ne (tgt := 71) hx hb d_M_make_63 (by decide) (fun c_7 => ?_) (fun c_7 => ?_)
    · skip
      refine lv_aload_n hx hb d_M_make_71 rfl (lv_at hl 1 rfl) ?_
      refine lv_iload_n hx hb d_M_make_72 rfl (lv_at hl 2 rfl) ?_
      refine go_v (wr := []) (run_V hF (c_M_addTail g l _ h0 a1 a2 a3 a4 n2 n3 ([] : List Int32) md hm0 t (by omega) hL) k_M_addTail j_M_154 se_M_M_addTail (va_recv hK hP (ci := 4) (q0 := 0) rfl rfl) (cw_down G hP hD hS hA [0, 1] rfl rfl) ⟨Nat.le_of_ble_eq_true rfl, Nat.le_of_ble_eq_true rfl⟩ rfl hl.1 (Nat.le_of_ble_eq_true rfl) d_M_make_73 ⟨(by first | exact Nat.le_of_ble_eq_true rfl | (dsimp only; omega) | omega), (by first | exact Nat.le_of_ble_eq_true rfl | (dsimp only; omega) | omega)⟩) hP hD hS hA [0, 1] [] rfl rfl rfl (by decide) (fun w1 H locs hp hP hD hS => ?_)
      obtain ⟨md_9, rfl, hm_9, hn_9, hn_9b⟩ := hp
      have hP : va_P (gD g) classes [(h0, .inr (4, [.ref a1, .int (nI (z_M_addTail ([] : List Int32) t).length), .ref a2, .int n2, .ref a3, .ref a4, .int n3])), (a1, .inl (gI g, 200, .inl md_9))] H := hP
      have hD : va_D A [(h0, .inr (4, [.ref a1, .int (nI (z_M_addTail ([] : List Int32) t).length), .ref a2, .int n2, .ref a3, .ref a4, .int n3])), (a1, .inl (gI g, 200, .inl md_9))] := hD
      refine lv_iconst (v := 1) hx hb d_M_make_76 (by decide) ?_
      have e : zf_M_make t wh = ((z_M_addTail ([] : List Int32) t), (1 : Int32)) := by rw [zf_M_make, if_neg c_2, if_pos c_5, if_neg c_7]
      exact ret_i hx hb hr hlk (hP.sub (ws' := [(h0, .inr (4, [.ref a1, .int (nI (z_M_addTail ([] : List Int32) t).length), .ref a2, .int n2, .ref a3, .ref a4, .int n3])), (a1, .inl (gI g, 200, .inl md_9))]) [0, 1] rfl) (hD.sub (ws' := [(h0, .inr (4, [.ref a1, .int (nI (z_M_addTail ([] : List Int32) t).length), .ref a2, .int n2, .ref a3, .ref a4, .int n3])), (a1, .inl (gI g, 200, .inl md_9))]) [0, 1] rfl rfl) hS (by decide) ⟨md_9, by rw [e], by rw [e]; exact hm_9, by rw [e]⟩ (by first | exact Nat.le_of_ble_eq_true rfl | (dsimp only; omega) | omega) (by first | exact Nat.le_of_ble_eq_true rfl | (dsimp only; omega) | omega) d_M_make_77
    · skip
      refine lv_aload_n hx hb d_M_make_66 rfl (lv_at hl 1 rfl) ?_
      refine lv_iload_n hx hb d_M_make_67 rfl (lv_at hl 0 rfl) ?_
      refine go_v (wr := []) (run_V hF (c_M_addOwn g l _ h0 a1 a2 a3 a4 n2 n3 ([] : List Int32) md hm0 (f_M_plain t) (by omega)) k_M_addOwn j_M_99 se_M_M_addOwn (va_recv hK hP (ci := 4) (q0 := 0) rfl rfl) (cw_down G hP hD hS hA [0, 1] rfl rfl) ⟨Nat.le_of_ble_eq_true rfl, Nat.le_of_ble_eq_true rfl⟩ rfl hl.1 (Nat.le_of_ble_eq_true rfl) d_M_make_68 ⟨(by first | exact Nat.le_of_ble_eq_true rfl | (dsimp only; omega) | omega), (by first | exact Nat.le_of_ble_eq_true rfl | (dsimp only; omega) | omega)⟩) hP hD hS hA [0, 1] [] rfl rfl rfl (by decide) (fun w1 H locs hp hP hD hS => ?_)
      obtain ⟨md_11, rfl, hm_11, hn_11, hn_11b⟩ := hp
      have hP : va_P (gD g) classes [(h0, .inr (4, [.ref a1, .int (nI (z_M_addOwn ([] : List Int32) (f_M_plain t)).length), .ref a2, .int n2, .ref a3, .ref a4, .int n3])), (a1, .inl (gI g, 200, .inl md_11))] H := hP
      have hD : va_D A [(h0, .inr (4, [.ref a1, .int (nI (z_M_addOwn ([] : List Int32) (f_M_plain t)).length), .ref a2, .int n2, .ref a3, .ref a4, .int n3])), (a1, .inl (gI g, 200, .inl md_11))] := hD
      refine lv_aload_n hx hb d_M_make_71 rfl (lv_at hl 1 rfl) ?_
      refine lv_iload_n hx hb d_M_make_72 rfl (lv_at hl 2 rfl) ?_
      refine go_v (wr := []) (run_V hF (c_M_addTail g l _ h0 a1 a2 a3 a4 n2 n3 (z_M_addOwn ([] : List Int32) (f_M_plain t)) md_11 hm_11 t (by omega) hL) k_M_addTail j_M_154 se_M_M_addTail (va_recv hK hP (ci := 4) (q0 := 0) rfl rfl) (cw_down G hP hD hS hA [0, 1] rfl rfl) ⟨Nat.le_of_ble_eq_true rfl, Nat.le_of_ble_eq_true rfl⟩ rfl hl.1 (Nat.le_of_ble_eq_true rfl) d_M_make_73 ⟨(by first | exact Nat.le_of_ble_eq_true rfl | (dsimp only; omega) | omega), (by first | exact Nat.le_of_ble_eq_true rfl | (dsimp only; omega) | omega)⟩) hP hD hS hA [0, 1] [] rfl rfl rfl (by decide) (fun w1 H locs hp hP hD hS => ?_)
      obtain ⟨md_13, rfl, hm_13, hn_13, hn_13b⟩ := hp
      have hP : va_P (gD g) classes [(h0, .inr (4, [.ref a1, .int (nI (z_M_addTail (z_M_addOwn ([] : List Int32) (f_M_plain t)) t).length), .ref a2, .int n2, .ref a3, .ref a4, .int n3])), (a1, .inl (gI g, 200, .inl md_13))] H := hP
      have hD : va_D A [(h0, .inr (4, [.ref a1, .int (nI (z_M_addTail (z_M_addOwn ([] : List Int32) (f_M_plain t)) t).length), .ref a2, .int n2, .ref a3, .ref a4, .int n3])), (a1, .inl (gI g, 200, .inl md_13))] := hD
      refine lv_iconst (v := 1) hx hb d_M_make_76 (by decide) ?_
      have e : zf_M_make t wh = ((z_M_addTail (z_M_addOwn ([] : List Int32) (f_M_plain t)) t), (1 : Int32)) := by rw [zf_M_make, if_neg c_2, if_pos c_5, if_pos c_7]
      exact ret_i hx hb hr hlk (hP.sub (ws' := [(h0, .inr (4, [.ref a1, .int (nI (z_M_addTail (z_M_addOwn ([] : List Int32) (f_M_plain t)) t).length), .ref a2, .int n2, .ref a3, .ref a4, .int n3])), (a1, .inl (gI g, 200, .inl md_13))]) [0, 1] rfl) (hD.sub (ws' := [(h0, .inr (4, [.ref a1, .int (nI (z_M_addTail (z_M_addOwn ([] : List Int32) (f_M_plain t)) t).length), .ref a2, .int n2, .ref a3, .ref a4, .int n3])), (a1, .inl (gI g, 200, .inl md_13))]) [0, 1] rfl rfl) hS (by decide) ⟨md_13, by rw [e], by rw [e]; exact hm_13, by rw [e]⟩ (by first | exact Nat.le_of_ble_eq_true rfl | (dsimp only; omega) | omega) (by first | exact Nat.le_of_ble_eq_true rfl | (dsimp only; omega) | omega) d_M_make_77
  by_cases c_14 : wh = 2
  · refine lv_tableIn (tgt := 78) (off := 67) hx hb d_M_make_11 (by rw [c_14]; decide) (by rw [c_14]; decide) (by rw [c_14]; decide) (by decide) ?_
    refine lv_aload_n hx hb d_M_make_78 rfl (lv_at hl 1 rfl) ?_
    refine lv_iload_n hx hb d_M_make_79 rfl (lv_at hl 0 rfl) ?_
    refine go_v (wr := []) (run_V hF (c_M_addName g l _ h0 a1 a2 a3 a4 n2 n3 ([] : List Int32) md hm0 (f_M_plain t) (by omega)) k_M_addName j_M_110 se_M_M_addName (va_recv hK hP (ci := 4) (q0 := 0) rfl rfl) (cw_down G hP hD hS hA [0, 1] rfl rfl) ⟨Nat.le_of_ble_eq_true rfl, Nat.le_of_ble_eq_true rfl⟩ rfl hl.1 (Nat.le_of_ble_eq_true rfl) d_M_make_80 ⟨(by first | exact Nat.le_of_ble_eq_true rfl | (dsimp only; omega) | omega), (by first | exact Nat.le_of_ble_eq_true rfl | (dsimp only; omega) | omega)⟩) hP hD hS hA [0, 1] [] rfl rfl rfl (by decide) (fun w1 H locs hp hP hD hS => ?_)
    obtain ⟨md_16, rfl, hm_16, hn_16, hn_16b⟩ := hp
    have hP : va_P (gD g) classes [(h0, .inr (4, [.ref a1, .int (nI (z_M_addName ([] : List Int32) (f_M_plain t)).length), .ref a2, .int n2, .ref a3, .ref a4, .int n3])), (a1, .inl (gI g, 200, .inl md_16))] H := hP
    have hD : va_D A [(h0, .inr (4, [.ref a1, .int (nI (z_M_addName ([] : List Int32) (f_M_plain t)).length), .ref a2, .int n2, .ref a3, .ref a4, .int n3])), (a1, .inl (gI g, 200, .inl md_16))] := hD
    refine lv_iconst (v := 0) hx hb d_M_make_83 (by decide) ?_
    refine lv_istore (lv' := [(4, .int 0), (3, .int (f_M_plain t)), (0, .ref h0), (1, .int t), (2, .int wh)]) hx hb d_M_make_84 hl (by decide) rfl (fun ls hl => ?_)
    refine lp_M_make hx hb hF hA G (z_M_addName ([] : List Int32) (f_M_plain t)) hm_16.1 0 (fun md_17 hm_17 H locs ls hP hD hS hl => ?_) ((z_M_addName ([] : List Int32) (f_M_plain t)).length - 0) 0 _ md_16 (by omega) (by first | rfl | decide) (Nat.le_refl _) (by rw [rpf_0]; exact hm_16) _ _ (hP.sub (ws' := [(h0, .inr (4, [.ref a1, .int (nI (z_M_addName ([] : List Int32) (f_M_plain t)).length), .ref a2, .int n2, .ref a3, .ref a4, .int n3])), (a1, .inl (gI g, 200, .inl md_16))]) [0, 1] rfl) (hD.sub (ws' := [(h0, .inr (4, [.ref a1, .int (nI (z_M_addName ([] : List Int32) (f_M_plain t)).length), .ref a2, .int n2, .ref a3, .ref a4, .int n3])), (a1, .inl (gI g, 200, .inl md_16))]) [0, 1] rfl rfl) hS _ (lv_sub hl [0, 2, 3, 4, 1] rfl)
    have hn_17 := rpf_len 0 (z_M_addName ([] : List Int32) (f_M_plain t)).length 36 46 (z_M_addName ([] : List Int32) (f_M_plain t)) 0
    rw [← hn_17] at hP hD
    have hP : va_P (gD g) classes [(h0, .inr (4, [.ref a1, .int (nI (rpf 0 (z_M_addName ([] : List Int32) (f_M_plain t)).length 36 46 0 (z_M_addName ([] : List Int32) (f_M_plain t))).length), .ref a2, .int n2, .ref a3, .ref a4, .int n3])), (a1, .inl (gI g, 200, .inl md_17))] H := hP
    have hD : va_D A [(h0, .inr (4, [.ref a1, .int (nI (rpf 0 (z_M_addName ([] : List Int32) (f_M_plain t)).length 36 46 0 (z_M_addName ([] : List Int32) (f_M_plain t))).length), .ref a2, .int n2, .ref a3, .ref a4, .int n3])), (a1, .inl (gI g, 200, .inl md_17))] := hD
    refine lv_aload_n hx hb d_M_make_122 rfl (lv_at hl 0 rfl) ?_
    refine lv_iload_n hx hb d_M_make_123 rfl (lv_at hl 1 rfl) ?_
    refine go_v (wr := []) (run_V hF (c_M_addTail g l _ h0 a1 a2 a3 a4 n2 n3 (rpf 0 (z_M_addName ([] : List Int32) (f_M_plain t)).length 36 46 0 (z_M_addName ([] : List Int32) (f_M_plain t))) md_17 hm_17 t (by omega) hL) k_M_addTail j_M_154 se_M_M_addTail (va_recv hK hP (ci := 4) (q0 := 0) rfl rfl) (cw_down G hP hD hS hA [0, 1] rfl rfl) ⟨Nat.le_of_ble_eq_true rfl, Nat.le_of_ble_eq_true rfl⟩ rfl hl.1 (Nat.le_of_ble_eq_true rfl) d_M_make_124 ⟨(by first | exact Nat.le_of_ble_eq_true rfl | (dsimp only; omega) | omega), (by first | exact Nat.le_of_ble_eq_true rfl | (dsimp only; omega) | omega)⟩) hP hD hS hA [0, 1] [] rfl rfl rfl (by decide) (fun w1 H locs hp hP hD hS => ?_)
    obtain ⟨md_19, rfl, hm_19, hn_19, hn_19b⟩ := hp
    have hP : va_P (gD g) classes [(h0, .inr (4, [.ref a1, .int (nI (z_M_addTail (rpf 0 (z_M_addName ([] : List Int32) (f_M_plain t)).length 36 46 0 (z_M_addName ([] : List Int32) (f_M_plain t))) t).length), .ref a2, .int n2, .ref a3, .ref a4, .int n3])), (a1, .inl (gI g, 200, .inl md_19))] H := hP
    have hD : va_D A [(h0, .inr (4, [.ref a1, .int (nI (z_M_addTail (rpf 0 (z_M_addName ([] : List Int32) (f_M_plain t)).length 36 46 0 (z_M_addName ([] : List Int32) (f_M_plain t))) t).length), .ref a2, .int n2, .ref a3, .ref a4, .int n3])), (a1, .inl (gI g, 200, .inl md_19))] := hD
    refine lv_iload_n hx hb d_M_make_127 rfl (lv_at hl 3 rfl) ?_
    refine lv_bipush (v := 17) hx hb d_M_make_128 (by decide) ?_
    refine lv_icmp_eq (tgt := 149) hx hb d_M_make_130 (by decide) (fun c_20 => ?_) (fun c_20 => ?_)
    · skip
      refine lv_iconst (v := 0) hx hb d_M_make_149 (by decide) ?_
      have e : zf_M_make t wh = ((z_M_addTail (rpf 0 (z_M_addName ([] : List Int32) (f_M_plain t)).length 36 46 0 (z_M_addName ([] : List Int32) (f_M_plain t))) t), (0 : Int32)) := by rw [zf_M_make, if_neg c_2, if_neg c_5, if_pos c_14, if_pos c_20]
      exact ret_i hx hb hr hlk (hP.sub (ws' := [(h0, .inr (4, [.ref a1, .int (nI (z_M_addTail (rpf 0 (z_M_addName ([] : List Int32) (f_M_plain t)).length 36 46 0 (z_M_addName ([] : List Int32) (f_M_plain t))) t).length), .ref a2, .int n2, .ref a3, .ref a4, .int n3])), (a1, .inl (gI g, 200, .inl md_19))]) [0, 1] rfl) (hD.sub (ws' := [(h0, .inr (4, [.ref a1, .int (nI (z_M_addTail (rpf 0 (z_M_addName ([] : List Int32) (f_M_plain t)).length 36 46 0 (z_M_addName ([] : List Int32) (f_M_plain t))) t).length), .ref a2, .int n2, .ref a3, .ref a4, .int n3])), (a1, .inl (gI g, 200, .inl md_19))]) [0, 1] rfl rfl) hS (by decide) ⟨md_19, by rw [e], by rw [e]; exact hm_19, by rw [e]⟩ (by first | exact Nat.le_of_ble_eq_true rfl | (dsimp only; omega) | omega) (by first | exact Nat.le_of_ble_eq_true rfl | (dsimp only; omega) | omega) d_M_make_150
    · skip
      refine lv_iload_n hx hb d_M_make_133 rfl (lv_at hl 3 rfl) ?_
      refine lv_bipush (v := 23) hx hb d_M_make_134 (by decide) ?_
      refine lv_icmp_eq (tgt := 149) hx hb d_M_make_136 (by decide) (fun c_21 => ?_) (fun c_21 => ?_)
      · skip
        refine lv_iconst (v := 0) hx hb d_M_make_149 (by decide) ?_
        have e : zf_M_make t wh = ((z_M_addTail (rpf 0 (z_M_addName ([] : List Int32) (f_M_plain t)).length 36 46 0 (z_M_addName ([] : List Int32) (f_M_plain t))) t), (0 : Int32)) := by rw [zf_M_make, if_neg c_2, if_neg c_5, if_pos c_14, if_neg c_20, if_pos c_21]
        exact ret_i hx hb hr hlk (hP.sub (ws' := [(h0, .inr (4, [.ref a1, .int (nI (z_M_addTail (rpf 0 (z_M_addName ([] : List Int32) (f_M_plain t)).length 36 46 0 (z_M_addName ([] : List Int32) (f_M_plain t))) t).length), .ref a2, .int n2, .ref a3, .ref a4, .int n3])), (a1, .inl (gI g, 200, .inl md_19))]) [0, 1] rfl) (hD.sub (ws' := [(h0, .inr (4, [.ref a1, .int (nI (z_M_addTail (rpf 0 (z_M_addName ([] : List Int32) (f_M_plain t)).length 36 46 0 (z_M_addName ([] : List Int32) (f_M_plain t))) t).length), .ref a2, .int n2, .ref a3, .ref a4, .int n3])), (a1, .inl (gI g, 200, .inl md_19))]) [0, 1] rfl rfl) hS (by decide) ⟨md_19, by rw [e], by rw [e]; exact hm_19, by rw [e]⟩ (by first | exact Nat.le_of_ble_eq_true rfl | (dsimp only; omega) | omega) (by first | exact Nat.le_of_ble_eq_true rfl | (dsimp only; omega) | omega) d_M_make_150
      · skip
        refine lv_iload_n hx hb d_M_make_139 rfl (lv_at hl 3 rfl) ?_
        refine lv_bipush (v := 24) hx hb d_M_make_140 (by decide) ?_
        refine lv_icmp_eq (tgt := 149) hx hb d_M_make_142 (by decide) (fun c_22 => ?_) (fun c_22 => ?_)
        · skip
          refine lv_iconst (v := 0) hx hb d_M_make_149 (by decide) ?_
          have e : zf_M_make t wh = ((z_M_addTail (rpf 0 (z_M_addName ([] : List Int32) (f_M_plain t)).length 36 46 0 (z_M_addName ([] : List Int32) (f_M_plain t))) t), (0 : Int32)) := by rw [zf_M_make, if_neg c_2, if_neg c_5, if_pos c_14, if_neg c_20, if_neg c_21, if_pos c_22]
          exact ret_i hx hb hr hlk (hP.sub (ws' := [(h0, .inr (4, [.ref a1, .int (nI (z_M_addTail (rpf 0 (z_M_addName ([] : List Int32) (f_M_plain t)).length 36 46 0 (z_M_addName ([] : List Int32) (f_M_plain t))) t).length), .ref a2, .int n2, .ref a3, .ref a4, .int n3])), (a1, .inl (gI g, 200, .inl md_19))]) [0, 1] rfl) (hD.sub (ws' := [(h0, .inr (4, [.ref a1, .int (nI (z_M_addTail (rpf 0 (z_M_addName ([] : List Int32) (f_M_plain t)).length 36 46 0 (z_M_addName ([] : List Int32) (f_M_plain t))) t).length), .ref a2, .int n2, .ref a3, .ref a4, .int n3])), (a1, .inl (gI g, 200, .inl md_19))]) [0, 1] rfl rfl) hS (by decide) ⟨md_19, by rw [e], by rw [e]; exact hm_19, by rw [e]⟩ (by first | exact Nat.le_of_ble_eq_true rfl | (dsimp only; omega) | omega) (by first | exact Nat.le_of_ble_eq_true rfl | (dsimp only; omega) | omega) d_M_make_150
        · skip
          refine lv_iconst (v := 1) hx hb d_M_make_145 (by decide) ?_
          refine lv_goto (tgt := 150) hx hb d_M_make_146 (by decide) ?_
          have e : zf_M_make t wh = ((z_M_addTail (rpf 0 (z_M_addName ([] : List Int32) (f_M_plain t)).length 36 46 0 (z_M_addName ([] : List Int32) (f_M_plain t))) t), (1 : Int32)) := by rw [zf_M_make, if_neg c_2, if_neg c_5, if_pos c_14, if_neg c_20, if_neg c_21, if_neg c_22]
          exact ret_i hx hb hr hlk (hP.sub (ws' := [(h0, .inr (4, [.ref a1, .int (nI (z_M_addTail (rpf 0 (z_M_addName ([] : List Int32) (f_M_plain t)).length 36 46 0 (z_M_addName ([] : List Int32) (f_M_plain t))) t).length), .ref a2, .int n2, .ref a3, .ref a4, .int n3])), (a1, .inl (gI g, 200, .inl md_19))]) [0, 1] rfl) (hD.sub (ws' := [(h0, .inr (4, [.ref a1, .int (nI (z_M_addTail (rpf 0 (z_M_addName ([] : List Int32) (f_M_plain t)).length 36 46 0 (z_M_addName ([] : List Int32) (f_M_plain t))) t).length), .ref a2, .int n2, .ref a3, .ref a4, .int n3])), (a1, .inl (gI g, 200, .inl md_19))]) [0, 1] rfl rfl) hS (by decide) ⟨md_19, by rw [e], by rw [e]; exact hm_19, by rw [e]⟩ (by first | exact Nat.le_of_ble_eq_true rfl | (dsimp only; omega) | omega) (by first | exact Nat.le_of_ble_eq_true rfl | (dsimp only; omega) | omega) d_M_make_150
  by_cases c_23 : wh = 3
  · refine lv_tableIn (tgt := 151) (off := 140) hx hb d_M_make_11 (by rw [c_23]; decide) (by rw [c_23]; decide) (by rw [c_23]; decide) (by decide) ?_
    refine lv_aload_n hx hb d_M_make_151 rfl (lv_at hl 1 rfl) ?_
    refine lv_iload_n hx hb d_M_make_152 rfl (lv_at hl 0 rfl) ?_
    refine go_v (wr := []) (run_V hF (c_M_addName g l _ h0 a1 a2 a3 a4 n2 n3 ([] : List Int32) md hm0 (f_M_plain t) (by omega)) k_M_addName j_M_110 se_M_M_addName (va_recv hK hP (ci := 4) (q0 := 0) rfl rfl) (cw_down G hP hD hS hA [0, 1] rfl rfl) ⟨Nat.le_of_ble_eq_true rfl, Nat.le_of_ble_eq_true rfl⟩ rfl hl.1 (Nat.le_of_ble_eq_true rfl) d_M_make_153 ⟨(by first | exact Nat.le_of_ble_eq_true rfl | (dsimp only; omega) | omega), (by first | exact Nat.le_of_ble_eq_true rfl | (dsimp only; omega) | omega)⟩) hP hD hS hA [0, 1] [] rfl rfl rfl (by decide) (fun w1 H locs hp hP hD hS => ?_)
    obtain ⟨md_25, rfl, hm_25, hn_25, hn_25b⟩ := hp
    have hP : va_P (gD g) classes [(h0, .inr (4, [.ref a1, .int (nI (z_M_addName ([] : List Int32) (f_M_plain t)).length), .ref a2, .int n2, .ref a3, .ref a4, .int n3])), (a1, .inl (gI g, 200, .inl md_25))] H := hP
    have hD : va_D A [(h0, .inr (4, [.ref a1, .int (nI (z_M_addName ([] : List Int32) (f_M_plain t)).length), .ref a2, .int n2, .ref a3, .ref a4, .int n3])), (a1, .inl (gI g, 200, .inl md_25))] := hD
    refine lv_aload_n hx hb d_M_make_156 rfl (lv_at hl 1 rfl) ?_
    refine lv_iload_n hx hb d_M_make_157 rfl (lv_at hl 2 rfl) ?_
    refine go_v (wr := []) (run_V hF (c_M_addTail g l _ h0 a1 a2 a3 a4 n2 n3 (z_M_addName ([] : List Int32) (f_M_plain t)) md_25 hm_25 t (by omega) hL) k_M_addTail j_M_154 se_M_M_addTail (va_recv hK hP (ci := 4) (q0 := 0) rfl rfl) (cw_down G hP hD hS hA [0, 1] rfl rfl) ⟨Nat.le_of_ble_eq_true rfl, Nat.le_of_ble_eq_true rfl⟩ rfl hl.1 (Nat.le_of_ble_eq_true rfl) d_M_make_158 ⟨(by first | exact Nat.le_of_ble_eq_true rfl | (dsimp only; omega) | omega), (by first | exact Nat.le_of_ble_eq_true rfl | (dsimp only; omega) | omega)⟩) hP hD hS hA [0, 1] [] rfl rfl rfl (by decide) (fun w1 H locs hp hP hD hS => ?_)
    obtain ⟨md_27, rfl, hm_27, hn_27, hn_27b⟩ := hp
    have hP : va_P (gD g) classes [(h0, .inr (4, [.ref a1, .int (nI (z_M_addTail (z_M_addName ([] : List Int32) (f_M_plain t)) t).length), .ref a2, .int n2, .ref a3, .ref a4, .int n3])), (a1, .inl (gI g, 200, .inl md_27))] H := hP
    have hD : va_D A [(h0, .inr (4, [.ref a1, .int (nI (z_M_addTail (z_M_addName ([] : List Int32) (f_M_plain t)) t).length), .ref a2, .int n2, .ref a3, .ref a4, .int n3])), (a1, .inl (gI g, 200, .inl md_27))] := hD
    refine lv_iconst (v := 1) hx hb d_M_make_161 (by decide) ?_
    have e : zf_M_make t wh = ((z_M_addTail (z_M_addName ([] : List Int32) (f_M_plain t)) t), (1 : Int32)) := by rw [zf_M_make, if_neg c_2, if_neg c_5, if_neg c_14, if_pos c_23]
    exact ret_i hx hb hr hlk (hP.sub (ws' := [(h0, .inr (4, [.ref a1, .int (nI (z_M_addTail (z_M_addName ([] : List Int32) (f_M_plain t)) t).length), .ref a2, .int n2, .ref a3, .ref a4, .int n3])), (a1, .inl (gI g, 200, .inl md_27))]) [0, 1] rfl) (hD.sub (ws' := [(h0, .inr (4, [.ref a1, .int (nI (z_M_addTail (z_M_addName ([] : List Int32) (f_M_plain t)) t).length), .ref a2, .int n2, .ref a3, .ref a4, .int n3])), (a1, .inl (gI g, 200, .inl md_27))]) [0, 1] rfl rfl) hS (by decide) ⟨md_27, by rw [e], by rw [e]; exact hm_27, by rw [e]⟩ (by first | exact Nat.le_of_ble_eq_true rfl | (dsimp only; omega) | omega) (by first | exact Nat.le_of_ble_eq_true rfl | (dsimp only; omega) | omega) d_M_make_162
  by_cases c_28 : wh = 4
  · refine lv_tableIn (tgt := 163) (off := 152) hx hb d_M_make_11 (by rw [c_28]; decide) (by rw [c_28]; decide) (by rw [c_28]; decide) (by decide) ?_
    refine lv_iload_n hx hb d_M_make_163 rfl (lv_at hl 0 rfl) ?_
    refine lv_bipush (v := 11) hx hb d_M_make_164 (by decide) ?_
    refine lv_icmp_ge (tgt := 176) hx hb d_M_make_166 (by decide) (fun c_29 => ?_) (fun c_29 => ?_)
    · skip
      refine lv_iload_n hx hb d_M_make_176 rfl (lv_at hl 0 rfl) ?_
      refine lv_bipush (v := 11) hx hb d_M_make_177 (by decide) ?_
      refine lv_icmp_ge (tgt := 189) hx hb d_M_make_179 (by decide) (fun c_30 => ?_) (fun c_30 => ?_)
      · skip
        refine lv_iconst (v := 1) hx hb d_M_make_189 (by decide) ?_
        have e : zf_M_make t wh = (([] : List Int32), (1 : Int32)) := by rw [zf_M_make, if_neg c_2, if_neg c_5, if_neg c_14, if_neg c_23, if_pos c_28, if_pos c_29]
        exact ret_i hx hb hr hlk (hP.sub (ws' := [(h0, .inr (4, [.ref a1, .int (nI ([] : List Int32).length), .ref a2, .int n2, .ref a3, .ref a4, .int n3])), (a1, .inl (gI g, 200, .inl md))]) [0, 1] rfl) (hD.sub (ws' := [(h0, .inr (4, [.ref a1, .int (nI ([] : List Int32).length), .ref a2, .int n2, .ref a3, .ref a4, .int n3])), (a1, .inl (gI g, 200, .inl md))]) [0, 1] rfl rfl) hS (by decide) ⟨md, by rw [e], by rw [e]; exact hm0, by rw [e]⟩ (by first | exact Nat.le_of_ble_eq_true rfl | (dsimp only; omega) | omega) (by first | exact Nat.le_of_ble_eq_true rfl | (dsimp only; omega) | omega) d_M_make_190
      · exact absurd c_29 c_30
    · skip
      refine lv_aload_n hx hb d_M_make_169 rfl (lv_at hl 1 rfl) ?_
      refine lv_ldc2 (v := 456901681454) hx hb hF.2.2.2.1 (hF.2.2.2.2 _ cl_M_95) d_M_make_170 ?_
      refine go_v (wr := []) (run_V hF (c_M_add g l _ h0 a1 a2 a3 a4 n2 n3 ([] : List Int32) md hm0 456901681454 (by omega)) k_M_add j_M_85 se_M_M_add (va_recv hK hP (ci := 4) (q0 := 0) rfl rfl) (cw_down G hP hD hS hA [0, 1] rfl rfl) ⟨Nat.le_of_ble_eq_true rfl, Nat.le_of_ble_eq_true rfl⟩ rfl hl.1 (Nat.le_of_ble_eq_true rfl) d_M_make_173 ⟨(by first | exact Nat.le_of_ble_eq_true rfl | (dsimp only; omega) | omega), (by first | exact Nat.le_of_ble_eq_true rfl | (dsimp only; omega) | omega)⟩) hP hD hS hA [0, 1] [] rfl rfl rfl (by decide) (fun w1 H locs hp hP hD hS => ?_)
      obtain ⟨md_32, rfl, hm_32, hn_32, hn_32b⟩ := hp
      have hP : va_P (gD g) classes [(h0, .inr (4, [.ref a1, .int (nI (z_M_add ([] : List Int32) 456901681454).length), .ref a2, .int n2, .ref a3, .ref a4, .int n3])), (a1, .inl (gI g, 200, .inl md_32))] H := hP
      have hD : va_D A [(h0, .inr (4, [.ref a1, .int (nI (z_M_add ([] : List Int32) 456901681454).length), .ref a2, .int n2, .ref a3, .ref a4, .int n3])), (a1, .inl (gI g, 200, .inl md_32))] := hD
      refine lv_iload_n hx hb d_M_make_176 rfl (lv_at hl 0 rfl) ?_
      refine lv_bipush (v := 11) hx hb d_M_make_177 (by decide) ?_
      refine lv_icmp_ge (tgt := 189) hx hb d_M_make_179 (by decide) (fun c_33 => ?_) (fun c_33 => ?_)
      · exact absurd c_33 c_29
      · skip
        refine lv_aload_n hx hb d_M_make_182 rfl (lv_at hl 1 rfl) ?_
        refine lv_ldc2 (v := 1818324583) hx hb hF.2.2.2.1 (hF.2.2.2.2 _ cl_M_157) d_M_make_183 ?_
        refine go_v (wr := []) (run_V hF (c_M_add g l _ h0 a1 a2 a3 a4 n2 n3 (z_M_add ([] : List Int32) 456901681454) md_32 hm_32 1818324583 (by omega)) k_M_add j_M_85 se_M_M_add (va_recv hK hP (ci := 4) (q0 := 0) rfl rfl) (cw_down G hP hD hS hA [0, 1] rfl rfl) ⟨Nat.le_of_ble_eq_true rfl, Nat.le_of_ble_eq_true rfl⟩ rfl hl.1 (Nat.le_of_ble_eq_true rfl) d_M_make_186 ⟨(by first | exact Nat.le_of_ble_eq_true rfl | (dsimp only; omega) | omega), (by first | exact Nat.le_of_ble_eq_true rfl | (dsimp only; omega) | omega)⟩) hP hD hS hA [0, 1] [] rfl rfl rfl (by decide) (fun w1 H locs hp hP hD hS => ?_)
        obtain ⟨md_35, rfl, hm_35, hn_35, hn_35b⟩ := hp
        have hP : va_P (gD g) classes [(h0, .inr (4, [.ref a1, .int (nI (z_M_add (z_M_add ([] : List Int32) 456901681454) 1818324583).length), .ref a2, .int n2, .ref a3, .ref a4, .int n3])), (a1, .inl (gI g, 200, .inl md_35))] H := hP
        have hD : va_D A [(h0, .inr (4, [.ref a1, .int (nI (z_M_add (z_M_add ([] : List Int32) 456901681454) 1818324583).length), .ref a2, .int n2, .ref a3, .ref a4, .int n3])), (a1, .inl (gI g, 200, .inl md_35))] := hD
        refine lv_iconst (v := 1) hx hb d_M_make_189 (by decide) ?_
        have e : zf_M_make t wh = ((z_M_add (z_M_add ([] : List Int32) 456901681454) 1818324583), (1 : Int32)) := by rw [zf_M_make, if_neg c_2, if_neg c_5, if_neg c_14, if_neg c_23, if_pos c_28, if_neg c_29]
        exact ret_i hx hb hr hlk (hP.sub (ws' := [(h0, .inr (4, [.ref a1, .int (nI (z_M_add (z_M_add ([] : List Int32) 456901681454) 1818324583).length), .ref a2, .int n2, .ref a3, .ref a4, .int n3])), (a1, .inl (gI g, 200, .inl md_35))]) [0, 1] rfl) (hD.sub (ws' := [(h0, .inr (4, [.ref a1, .int (nI (z_M_add (z_M_add ([] : List Int32) 456901681454) 1818324583).length), .ref a2, .int n2, .ref a3, .ref a4, .int n3])), (a1, .inl (gI g, 200, .inl md_35))]) [0, 1] rfl rfl) hS (by decide) ⟨md_35, by rw [e], by rw [e]; exact hm_35, by rw [e]⟩ (by first | exact Nat.le_of_ble_eq_true rfl | (dsimp only; omega) | omega) (by first | exact Nat.le_of_ble_eq_true rfl | (dsimp only; omega) | omega) d_M_make_190
  by_cases c_36 : wh = 5
  · refine lv_tableIn (tgt := 191) (off := 180) hx hb d_M_make_11 (by rw [c_36]; decide) (by rw [c_36]; decide) (by rw [c_36]; decide) (by decide) ?_
    refine lv_iload_n hx hb d_M_make_191 rfl (lv_at hl 2 rfl) ?_
    refine pm_callE hF hN (c_M_isInterface l t) k_M_isInterface j_M_159 ⟨Nat.le_of_ble_eq_true rfl, Nat.le_of_ble_eq_true rfl⟩ rfl hl.1 (Nat.le_of_ble_eq_true rfl) d_M_make_192 ⟨by first | omega | exact Nat.zero_le _, by first | omega | exact Nat.zero_le _⟩ ?_
    refine lv_if_eq (tgt := 212) hx hb d_M_make_195 (by decide) (fun c_38 => ?_) (fun c_38 => ?_)
    · skip
      refine lv_iload_n hx hb d_M_make_212 rfl (lv_at hl 2 rfl) ?_
      refine pm_callE hF hN (c_M_primitive l t) k_M_primitive j_M_102 ⟨Nat.le_of_ble_eq_true rfl, Nat.le_of_ble_eq_true rfl⟩ rfl hl.1 (Nat.le_of_ble_eq_true rfl) d_M_make_213 ⟨by first | omega | exact Nat.zero_le _, by first | omega | exact Nat.zero_le _⟩ ?_
      refine lv_if_ne (tgt := 226) hx hb d_M_make_216 (by decide) (fun c_40 => ?_) (fun c_40 => ?_)
      · skip
        refine lv_iload_n hx hb d_M_make_226 rfl (lv_at hl 2 rfl) ?_
        refine pm_callE hF hN (c_M_primitive l t) k_M_primitive j_M_102 ⟨Nat.le_of_ble_eq_true rfl, Nat.le_of_ble_eq_true rfl⟩ rfl hl.1 (Nat.le_of_ble_eq_true rfl) d_M_make_227 ⟨by first | omega | exact Nat.zero_le _, by first | omega | exact Nat.zero_le _⟩ ?_
        refine lv_if_ne (tgt := 239) hx hb d_M_make_230 (by decide) (fun c_42 => ?_) (fun c_42 => ?_)
        · skip
          refine lv_aload_n hx hb d_M_make_239 rfl (lv_at hl 1 rfl) ?_
          refine lv_iload_n hx hb d_M_make_240 rfl (lv_at hl 2 rfl) ?_
          refine go_v (wr := []) (run_V hF (c_M_addWhole g l _ h0 a1 a2 a3 a4 n2 n3 ([] : List Int32) md hm0 t (by omega) hL) k_M_addWhole j_M_148 se_M_M_addWhole (va_recv hK hP (ci := 4) (q0 := 0) rfl rfl) (cw_down G hP hD hS hA [0, 1] rfl rfl) ⟨Nat.le_of_ble_eq_true rfl, Nat.le_of_ble_eq_true rfl⟩ rfl hl.1 (Nat.le_of_ble_eq_true rfl) d_M_make_241 ⟨(by first | exact Nat.le_of_ble_eq_true rfl | (dsimp only; omega) | omega), (by first | exact Nat.le_of_ble_eq_true rfl | (dsimp only; omega) | omega)⟩) hP hD hS hA [0, 1] [] rfl rfl rfl (by decide) (fun w1 H locs hp hP hD hS => ?_)
          obtain ⟨md_44, rfl, hm_44, hn_44, hn_44b⟩ := hp
          have hP : va_P (gD g) classes [(h0, .inr (4, [.ref a1, .int (nI (z_M_addWhole ([] : List Int32) t).length), .ref a2, .int n2, .ref a3, .ref a4, .int n3])), (a1, .inl (gI g, 200, .inl md_44))] H := hP
          have hD : va_D A [(h0, .inr (4, [.ref a1, .int (nI (z_M_addWhole ([] : List Int32) t).length), .ref a2, .int n2, .ref a3, .ref a4, .int n3])), (a1, .inl (gI g, 200, .inl md_44))] := hD
          refine lv_iconst (v := 1) hx hb d_M_make_244 (by decide) ?_
          have e : zf_M_make t wh = ((z_M_addWhole ([] : List Int32) t), (1 : Int32)) := by rw [zf_M_make, if_neg c_2, if_neg c_5, if_neg c_14, if_neg c_23, if_neg c_28, if_pos c_36, if_pos c_38, if_neg c_40]
          exact ret_i hx hb hr hlk (hP.sub (ws' := [(h0, .inr (4, [.ref a1, .int (nI (z_M_addWhole ([] : List Int32) t).length), .ref a2, .int n2, .ref a3, .ref a4, .int n3])), (a1, .inl (gI g, 200, .inl md_44))]) [0, 1] rfl) (hD.sub (ws' := [(h0, .inr (4, [.ref a1, .int (nI (z_M_addWhole ([] : List Int32) t).length), .ref a2, .int n2, .ref a3, .ref a4, .int n3])), (a1, .inl (gI g, 200, .inl md_44))]) [0, 1] rfl rfl) hS (by decide) ⟨md_44, by rw [e], by rw [e]; exact hm_44, by rw [e]⟩ (by first | exact Nat.le_of_ble_eq_true rfl | (dsimp only; omega) | omega) (by first | exact Nat.le_of_ble_eq_true rfl | (dsimp only; omega) | omega) d_M_make_245
        · exact absurd c_42 c_40
      · skip
        refine lv_aload_n hx hb d_M_make_219 rfl (lv_at hl 1 rfl) ?_
        refine lv_ldc2 (v := 427020088179) hx hb hF.2.2.2.1 (hF.2.2.2.2 _ cl_M_162) d_M_make_220 ?_
        refine go_v (wr := []) (run_V hF (c_M_add g l _ h0 a1 a2 a3 a4 n2 n3 ([] : List Int32) md hm0 427020088179 (by omega)) k_M_add j_M_85 se_M_M_add (va_recv hK hP (ci := 4) (q0 := 0) rfl rfl) (cw_down G hP hD hS hA [0, 1] rfl rfl) ⟨Nat.le_of_ble_eq_true rfl, Nat.le_of_ble_eq_true rfl⟩ rfl hl.1 (Nat.le_of_ble_eq_true rfl) d_M_make_223 ⟨(by first | exact Nat.le_of_ble_eq_true rfl | (dsimp only; omega) | omega), (by first | exact Nat.le_of_ble_eq_true rfl | (dsimp only; omega) | omega)⟩) hP hD hS hA [0, 1] [] rfl rfl rfl (by decide) (fun w1 H locs hp hP hD hS => ?_)
        obtain ⟨md_46, rfl, hm_46, hn_46, hn_46b⟩ := hp
        have hP : va_P (gD g) classes [(h0, .inr (4, [.ref a1, .int (nI (z_M_add ([] : List Int32) 427020088179).length), .ref a2, .int n2, .ref a3, .ref a4, .int n3])), (a1, .inl (gI g, 200, .inl md_46))] H := hP
        have hD : va_D A [(h0, .inr (4, [.ref a1, .int (nI (z_M_add ([] : List Int32) 427020088179).length), .ref a2, .int n2, .ref a3, .ref a4, .int n3])), (a1, .inl (gI g, 200, .inl md_46))] := hD
        refine lv_iload_n hx hb d_M_make_226 rfl (lv_at hl 2 rfl) ?_
        refine pm_callE hF hN (c_M_primitive l t) k_M_primitive j_M_102 ⟨Nat.le_of_ble_eq_true rfl, Nat.le_of_ble_eq_true rfl⟩ rfl hl.1 (Nat.le_of_ble_eq_true rfl) d_M_make_227 ⟨by first | omega | exact Nat.zero_le _, by first | omega | exact Nat.zero_le _⟩ ?_
        refine lv_if_ne (tgt := 239) hx hb d_M_make_230 (by decide) (fun c_48 => ?_) (fun c_48 => ?_)
        · exact absurd c_40 c_48
        · skip
          refine lv_aload_n hx hb d_M_make_233 rfl (lv_at hl 1 rfl) ?_
          refine lv_bipush (v := 32) hx hb d_M_make_234 (by decide) ?_
          refine go_v (wr := []) (run_V hF (c_M_one g l _ h0 a1 a2 a3 a4 n2 n3 (z_M_add ([] : List Int32) 427020088179) md_46 hm_46 32 (by omega)) k_M_one j_M_79 se_M_M_one (va_recv hK hP (ci := 4) (q0 := 0) rfl rfl) (cw_down G hP hD hS hA [0, 1] rfl rfl) ⟨Nat.le_of_ble_eq_true rfl, Nat.le_of_ble_eq_true rfl⟩ rfl hl.1 (Nat.le_of_ble_eq_true rfl) d_M_make_236 ⟨(by first | exact Nat.le_of_ble_eq_true rfl | (dsimp only; omega) | omega), (by first | exact Nat.le_of_ble_eq_true rfl | (dsimp only; omega) | omega)⟩) hP hD hS hA [0, 1] [] rfl rfl rfl (by decide) (fun w1 H locs hp hP hD hS => ?_)
          obtain ⟨md_50, rfl, hm_50, hn_50, hn_50b⟩ := hp
          have hP : va_P (gD g) classes [(h0, .inr (4, [.ref a1, .int (nI (z_M_one (z_M_add ([] : List Int32) 427020088179) 32).length), .ref a2, .int n2, .ref a3, .ref a4, .int n3])), (a1, .inl (gI g, 200, .inl md_50))] H := hP
          have hD : va_D A [(h0, .inr (4, [.ref a1, .int (nI (z_M_one (z_M_add ([] : List Int32) 427020088179) 32).length), .ref a2, .int n2, .ref a3, .ref a4, .int n3])), (a1, .inl (gI g, 200, .inl md_50))] := hD
          refine lv_aload_n hx hb d_M_make_239 rfl (lv_at hl 1 rfl) ?_
          refine lv_iload_n hx hb d_M_make_240 rfl (lv_at hl 2 rfl) ?_
          refine go_v (wr := []) (run_V hF (c_M_addWhole g l _ h0 a1 a2 a3 a4 n2 n3 (z_M_one (z_M_add ([] : List Int32) 427020088179) 32) md_50 hm_50 t (by omega) hL) k_M_addWhole j_M_148 se_M_M_addWhole (va_recv hK hP (ci := 4) (q0 := 0) rfl rfl) (cw_down G hP hD hS hA [0, 1] rfl rfl) ⟨Nat.le_of_ble_eq_true rfl, Nat.le_of_ble_eq_true rfl⟩ rfl hl.1 (Nat.le_of_ble_eq_true rfl) d_M_make_241 ⟨(by first | exact Nat.le_of_ble_eq_true rfl | (dsimp only; omega) | omega), (by first | exact Nat.le_of_ble_eq_true rfl | (dsimp only; omega) | omega)⟩) hP hD hS hA [0, 1] [] rfl rfl rfl (by decide) (fun w1 H locs hp hP hD hS => ?_)
          obtain ⟨md_52, rfl, hm_52, hn_52, hn_52b⟩ := hp
          have hP : va_P (gD g) classes [(h0, .inr (4, [.ref a1, .int (nI (z_M_addWhole (z_M_one (z_M_add ([] : List Int32) 427020088179) 32) t).length), .ref a2, .int n2, .ref a3, .ref a4, .int n3])), (a1, .inl (gI g, 200, .inl md_52))] H := hP
          have hD : va_D A [(h0, .inr (4, [.ref a1, .int (nI (z_M_addWhole (z_M_one (z_M_add ([] : List Int32) 427020088179) 32) t).length), .ref a2, .int n2, .ref a3, .ref a4, .int n3])), (a1, .inl (gI g, 200, .inl md_52))] := hD
          refine lv_iconst (v := 1) hx hb d_M_make_244 (by decide) ?_
          have e : zf_M_make t wh = ((z_M_addWhole (z_M_one (z_M_add ([] : List Int32) 427020088179) 32) t), (1 : Int32)) := by rw [zf_M_make, if_neg c_2, if_neg c_5, if_neg c_14, if_neg c_23, if_neg c_28, if_pos c_36, if_pos c_38, if_pos c_40]
          exact ret_i hx hb hr hlk (hP.sub (ws' := [(h0, .inr (4, [.ref a1, .int (nI (z_M_addWhole (z_M_one (z_M_add ([] : List Int32) 427020088179) 32) t).length), .ref a2, .int n2, .ref a3, .ref a4, .int n3])), (a1, .inl (gI g, 200, .inl md_52))]) [0, 1] rfl) (hD.sub (ws' := [(h0, .inr (4, [.ref a1, .int (nI (z_M_addWhole (z_M_one (z_M_add ([] : List Int32) 427020088179) 32) t).length), .ref a2, .int n2, .ref a3, .ref a4, .int n3])), (a1, .inl (gI g, 200, .inl md_52))]) [0, 1] rfl rfl) hS (by decide) ⟨md_52, by rw [e], by rw [e]; exact hm_52, by rw [e]⟩ (by first | exact Nat.le_of_ble_eq_true rfl | (dsimp only; omega) | omega) (by first | exact Nat.le_of_ble_eq_true rfl | (dsimp only; omega) | omega) d_M_make_245
    · skip
      refine lv_aload_n hx hb d_M_make_198 rfl (lv_at hl 1 rfl) ?_
      refine lv_iconst (v := 1) hx hb d_M_make_199 (by decide) ?_
      refine lv_ldc2 (v := 7597137600480436579) hx hb hF.2.2.2.1 (hF.2.2.2.2 _ cl_M_137) d_M_make_200 ?_
      refine lv_ldc2 (v := 101) hx hb hF.2.2.2.1 (hF.2.2.2.2 _ cl_M_139) d_M_make_203 ?_
      refine go_v (wr := []) (run_V hF (c_M_addWord g l _ h0 a1 a2 a3 a4 n2 n3 ([] : List Int32) md hm0 1 7597137600480436579 101 (by omega)) k_M_addWord j_M_121 se_M_M_addWord (va_recv hK hP (ci := 4) (q0 := 0) rfl rfl) (cw_down G hP hD hS hA [0, 1] rfl rfl) ⟨Nat.le_of_ble_eq_true rfl, Nat.le_of_ble_eq_true rfl⟩ rfl hl.1 (Nat.le_of_ble_eq_true rfl) d_M_make_206 ⟨(by first | exact Nat.le_of_ble_eq_true rfl | (dsimp only; omega) | omega), (by first | exact Nat.le_of_ble_eq_true rfl | (dsimp only; omega) | omega)⟩) hP hD hS hA [0, 1] [] rfl rfl rfl (by decide) (fun w1 H locs hp hP hD hS => ?_)
      obtain ⟨md_54, rfl, hm_54, hn_54, hn_54b⟩ := hp
      have hP : va_P (gD g) classes [(h0, .inr (4, [.ref a1, .int (nI (z_M_addWord ([] : List Int32) 1 7597137600480436579 101).length), .ref a2, .int n2, .ref a3, .ref a4, .int n3])), (a1, .inl (gI g, 200, .inl md_54))] H := hP
      have hD : va_D A [(h0, .inr (4, [.ref a1, .int (nI (z_M_addWord ([] : List Int32) 1 7597137600480436579 101).length), .ref a2, .int n2, .ref a3, .ref a4, .int n3])), (a1, .inl (gI g, 200, .inl md_54))] := hD
      refine lv_goto (tgt := 226) hx hb d_M_make_209 (by decide) ?_
      refine lv_iload_n hx hb d_M_make_226 rfl (lv_at hl 2 rfl) ?_
      refine pm_callE hF hN (c_M_primitive l t) k_M_primitive j_M_102 ⟨Nat.le_of_ble_eq_true rfl, Nat.le_of_ble_eq_true rfl⟩ rfl hl.1 (Nat.le_of_ble_eq_true rfl) d_M_make_227 ⟨by first | omega | exact Nat.zero_le _, by first | omega | exact Nat.zero_le _⟩ ?_
      refine lv_if_ne (tgt := 239) hx hb d_M_make_230 (by decide) (fun c_56 => ?_) (fun c_56 => ?_)
      · skip
        refine lv_aload_n hx hb d_M_make_239 rfl (lv_at hl 1 rfl) ?_
        refine lv_iload_n hx hb d_M_make_240 rfl (lv_at hl 2 rfl) ?_
        refine go_v (wr := []) (run_V hF (c_M_addWhole g l _ h0 a1 a2 a3 a4 n2 n3 (z_M_addWord ([] : List Int32) 1 7597137600480436579 101) md_54 hm_54 t (by omega) hL) k_M_addWhole j_M_148 se_M_M_addWhole (va_recv hK hP (ci := 4) (q0 := 0) rfl rfl) (cw_down G hP hD hS hA [0, 1] rfl rfl) ⟨Nat.le_of_ble_eq_true rfl, Nat.le_of_ble_eq_true rfl⟩ rfl hl.1 (Nat.le_of_ble_eq_true rfl) d_M_make_241 ⟨(by first | exact Nat.le_of_ble_eq_true rfl | (dsimp only; omega) | omega), (by first | exact Nat.le_of_ble_eq_true rfl | (dsimp only; omega) | omega)⟩) hP hD hS hA [0, 1] [] rfl rfl rfl (by decide) (fun w1 H locs hp hP hD hS => ?_)
        obtain ⟨md_58, rfl, hm_58, hn_58, hn_58b⟩ := hp
        have hP : va_P (gD g) classes [(h0, .inr (4, [.ref a1, .int (nI (z_M_addWhole (z_M_addWord ([] : List Int32) 1 7597137600480436579 101) t).length), .ref a2, .int n2, .ref a3, .ref a4, .int n3])), (a1, .inl (gI g, 200, .inl md_58))] H := hP
        have hD : va_D A [(h0, .inr (4, [.ref a1, .int (nI (z_M_addWhole (z_M_addWord ([] : List Int32) 1 7597137600480436579 101) t).length), .ref a2, .int n2, .ref a3, .ref a4, .int n3])), (a1, .inl (gI g, 200, .inl md_58))] := hD
        refine lv_iconst (v := 1) hx hb d_M_make_244 (by decide) ?_
        have e : zf_M_make t wh = ((z_M_addWhole (z_M_addWord ([] : List Int32) 1 7597137600480436579 101) t), (1 : Int32)) := by rw [zf_M_make, if_neg c_2, if_neg c_5, if_neg c_14, if_neg c_23, if_neg c_28, if_pos c_36, if_neg c_38, if_neg c_56]
        exact ret_i hx hb hr hlk (hP.sub (ws' := [(h0, .inr (4, [.ref a1, .int (nI (z_M_addWhole (z_M_addWord ([] : List Int32) 1 7597137600480436579 101) t).length), .ref a2, .int n2, .ref a3, .ref a4, .int n3])), (a1, .inl (gI g, 200, .inl md_58))]) [0, 1] rfl) (hD.sub (ws' := [(h0, .inr (4, [.ref a1, .int (nI (z_M_addWhole (z_M_addWord ([] : List Int32) 1 7597137600480436579 101) t).length), .ref a2, .int n2, .ref a3, .ref a4, .int n3])), (a1, .inl (gI g, 200, .inl md_58))]) [0, 1] rfl rfl) hS (by decide) ⟨md_58, by rw [e], by rw [e]; exact hm_58, by rw [e]⟩ (by first | exact Nat.le_of_ble_eq_true rfl | (dsimp only; omega) | omega) (by first | exact Nat.le_of_ble_eq_true rfl | (dsimp only; omega) | omega) d_M_make_245
      · skip
        refine lv_aload_n hx hb d_M_make_233 rfl (lv_at hl 1 rfl) ?_
        refine lv_bipush (v := 32) hx hb d_M_make_234 (by decide) ?_
        refine go_v (wr := []) (run_V hF (c_M_one g l _ h0 a1 a2 a3 a4 n2 n3 (z_M_addWord ([] : List Int32) 1 7597137600480436579 101) md_54 hm_54 32 (by omega)) k_M_one j_M_79 se_M_M_one (va_recv hK hP (ci := 4) (q0 := 0) rfl rfl) (cw_down G hP hD hS hA [0, 1] rfl rfl) ⟨Nat.le_of_ble_eq_true rfl, Nat.le_of_ble_eq_true rfl⟩ rfl hl.1 (Nat.le_of_ble_eq_true rfl) d_M_make_236 ⟨(by first | exact Nat.le_of_ble_eq_true rfl | (dsimp only; omega) | omega), (by first | exact Nat.le_of_ble_eq_true rfl | (dsimp only; omega) | omega)⟩) hP hD hS hA [0, 1] [] rfl rfl rfl (by decide) (fun w1 H locs hp hP hD hS => ?_)
        obtain ⟨md_60, rfl, hm_60, hn_60, hn_60b⟩ := hp
        have hP : va_P (gD g) classes [(h0, .inr (4, [.ref a1, .int (nI (z_M_one (z_M_addWord ([] : List Int32) 1 7597137600480436579 101) 32).length), .ref a2, .int n2, .ref a3, .ref a4, .int n3])), (a1, .inl (gI g, 200, .inl md_60))] H := hP
        have hD : va_D A [(h0, .inr (4, [.ref a1, .int (nI (z_M_one (z_M_addWord ([] : List Int32) 1 7597137600480436579 101) 32).length), .ref a2, .int n2, .ref a3, .ref a4, .int n3])), (a1, .inl (gI g, 200, .inl md_60))] := hD
        refine lv_aload_n hx hb d_M_make_239 rfl (lv_at hl 1 rfl) ?_
        refine lv_iload_n hx hb d_M_make_240 rfl (lv_at hl 2 rfl) ?_
        refine go_v (wr := []) (run_V hF (c_M_addWhole g l _ h0 a1 a2 a3 a4 n2 n3 (z_M_one (z_M_addWord ([] : List Int32) 1 7597137600480436579 101) 32) md_60 hm_60 t (by omega) hL) k_M_addWhole j_M_148 se_M_M_addWhole (va_recv hK hP (ci := 4) (q0 := 0) rfl rfl) (cw_down G hP hD hS hA [0, 1] rfl rfl) ⟨Nat.le_of_ble_eq_true rfl, Nat.le_of_ble_eq_true rfl⟩ rfl hl.1 (Nat.le_of_ble_eq_true rfl) d_M_make_241 ⟨(by first | exact Nat.le_of_ble_eq_true rfl | (dsimp only; omega) | omega), (by first | exact Nat.le_of_ble_eq_true rfl | (dsimp only; omega) | omega)⟩) hP hD hS hA [0, 1] [] rfl rfl rfl (by decide) (fun w1 H locs hp hP hD hS => ?_)
        obtain ⟨md_62, rfl, hm_62, hn_62, hn_62b⟩ := hp
        have hP : va_P (gD g) classes [(h0, .inr (4, [.ref a1, .int (nI (z_M_addWhole (z_M_one (z_M_addWord ([] : List Int32) 1 7597137600480436579 101) 32) t).length), .ref a2, .int n2, .ref a3, .ref a4, .int n3])), (a1, .inl (gI g, 200, .inl md_62))] H := hP
        have hD : va_D A [(h0, .inr (4, [.ref a1, .int (nI (z_M_addWhole (z_M_one (z_M_addWord ([] : List Int32) 1 7597137600480436579 101) 32) t).length), .ref a2, .int n2, .ref a3, .ref a4, .int n3])), (a1, .inl (gI g, 200, .inl md_62))] := hD
        refine lv_iconst (v := 1) hx hb d_M_make_244 (by decide) ?_
        have e : zf_M_make t wh = ((z_M_addWhole (z_M_one (z_M_addWord ([] : List Int32) 1 7597137600480436579 101) 32) t), (1 : Int32)) := by rw [zf_M_make, if_neg c_2, if_neg c_5, if_neg c_14, if_neg c_23, if_neg c_28, if_pos c_36, if_neg c_38, if_pos c_56]
        exact ret_i hx hb hr hlk (hP.sub (ws' := [(h0, .inr (4, [.ref a1, .int (nI (z_M_addWhole (z_M_one (z_M_addWord ([] : List Int32) 1 7597137600480436579 101) 32) t).length), .ref a2, .int n2, .ref a3, .ref a4, .int n3])), (a1, .inl (gI g, 200, .inl md_62))]) [0, 1] rfl) (hD.sub (ws' := [(h0, .inr (4, [.ref a1, .int (nI (z_M_addWhole (z_M_one (z_M_addWord ([] : List Int32) 1 7597137600480436579 101) 32) t).length), .ref a2, .int n2, .ref a3, .ref a4, .int n3])), (a1, .inl (gI g, 200, .inl md_62))]) [0, 1] rfl rfl) hS (by decide) ⟨md_62, by rw [e], by rw [e]; exact hm_62, by rw [e]⟩ (by first | exact Nat.le_of_ble_eq_true rfl | (dsimp only; omega) | omega) (by first | exact Nat.le_of_ble_eq_true rfl | (dsimp only; omega) | omega) d_M_make_245
  by_cases c_63 : wh = 6
  · refine lv_tableIn (tgt := 246) (off := 235) hx hb d_M_make_11 (by rw [c_63]; decide) (by rw [c_63]; decide) (by rw [c_63]; decide) (by decide) ?_
    refine lv_iconst (v := 0) hx hb d_M_make_246 (by decide) ?_
    refine lv_istore (lv' := [(4, .int 0), (3, .int (f_M_plain t)), (0, .ref h0), (1, .int t), (2, .int wh)]) hx hb d_M_make_247 hl (by decide) rfl (fun ls hl => ?_)
    refine lv_iload hx hb d_M_make_249 (lv_at hl 0 rfl) ?_
    refine lv_iload_n hx hb d_M_make_251 rfl (lv_at hl 3 rfl) ?_
    refine pm_callE hF hN (c_M_levels l t) k_M_levels j_M_113 ⟨Nat.le_of_ble_eq_true rfl, Nat.le_of_ble_eq_true rfl⟩ rfl hl.1 (Nat.le_of_ble_eq_true rfl) d_M_make_252 ⟨by first | omega | exact Nat.zero_le _, by first | omega | exact Nat.zero_le _⟩ ?_
    refine lv_icmp_ge (tgt := 270) hx hb d_M_make_255 (by decide) (fun c_65 => ?_) (fun c_65 => ?_)
    · skip
      refine lv_aload_n hx hb d_M_make_270 rfl (lv_at hl 2 rfl) ?_
      refine lv_iload_n hx hb d_M_make_271 rfl (lv_at hl 1 rfl) ?_
      refine lv_iconst (v := 1) hx hb d_M_make_272 (by decide) ?_
      refine go_v (wr := []) (run_V hF (c_M_addDescriptor g l _ h0 a1 a2 a3 a4 n2 n3 ([] : List Int32) md hm0 (f_M_plain t) 1 (by omega)) k_M_addDescriptor j_M_144 se_M_M_addDescriptor (va_recv hK hP (ci := 4) (q0 := 0) rfl rfl) (cw_down G hP hD hS hA [0, 1] rfl rfl) ⟨Nat.le_of_ble_eq_true rfl, Nat.le_of_ble_eq_true rfl⟩ rfl hl.1 (Nat.le_of_ble_eq_true rfl) d_M_make_273 ⟨(by first | exact Nat.le_of_ble_eq_true rfl | (dsimp only; omega) | omega), (by first | exact Nat.le_of_ble_eq_true rfl | (dsimp only; omega) | omega)⟩) hP hD hS hA [0, 1] [] rfl rfl rfl (by decide) (fun w1 H locs hp hP hD hS => ?_)
      obtain ⟨md_67, rfl, hm_67, hn_67, hn_67b⟩ := hp
      have hP : va_P (gD g) classes [(h0, .inr (4, [.ref a1, .int (nI (z_M_addDescriptor ([] : List Int32) (f_M_plain t) 1).length), .ref a2, .int n2, .ref a3, .ref a4, .int n3])), (a1, .inl (gI g, 200, .inl md_67))] H := hP
      have hD : va_D A [(h0, .inr (4, [.ref a1, .int (nI (z_M_addDescriptor ([] : List Int32) (f_M_plain t) 1).length), .ref a2, .int n2, .ref a3, .ref a4, .int n3])), (a1, .inl (gI g, 200, .inl md_67))] := hD
      refine lv_iconst (v := 1) hx hb d_M_make_276 (by decide) ?_
      have e : zf_M_make t wh = ((z_M_addDescriptor ([] : List Int32) (f_M_plain t) 1), (1 : Int32)) := by rw [zf_M_make, if_neg c_2, if_neg c_5, if_neg c_14, if_neg c_23, if_neg c_28, if_neg c_36, if_pos c_63, if_pos c_65]
      exact ret_i hx hb hr hlk (hP.sub (ws' := [(h0, .inr (4, [.ref a1, .int (nI (z_M_addDescriptor ([] : List Int32) (f_M_plain t) 1).length), .ref a2, .int n2, .ref a3, .ref a4, .int n3])), (a1, .inl (gI g, 200, .inl md_67))]) [0, 1] rfl) (hD.sub (ws' := [(h0, .inr (4, [.ref a1, .int (nI (z_M_addDescriptor ([] : List Int32) (f_M_plain t) 1).length), .ref a2, .int n2, .ref a3, .ref a4, .int n3])), (a1, .inl (gI g, 200, .inl md_67))]) [0, 1] rfl rfl) hS (by decide) ⟨md_67, by rw [e], by rw [e]; exact hm_67, by rw [e]⟩ (by first | exact Nat.le_of_ble_eq_true rfl | (dsimp only; omega) | omega) (by first | exact Nat.le_of_ble_eq_true rfl | (dsimp only; omega) | omega) d_M_make_277
    · skip
      refine lv_aload_n hx hb d_M_make_258 rfl (lv_at hl 2 rfl) ?_
      refine lv_bipush (v := 91) hx hb d_M_make_259 (by decide) ?_
      refine go_v (wr := []) (run_V hF (c_M_one g l _ h0 a1 a2 a3 a4 n2 n3 ([] : List Int32) md hm0 91 (by omega)) k_M_one j_M_79 se_M_M_one (va_recv hK hP (ci := 4) (q0 := 0) rfl rfl) (cw_down G hP hD hS hA [0, 1] rfl rfl) ⟨Nat.le_of_ble_eq_true rfl, Nat.le_of_ble_eq_true rfl⟩ rfl hl.1 (Nat.le_of_ble_eq_true rfl) d_M_make_261 ⟨(by first | exact Nat.le_of_ble_eq_true rfl | (dsimp only; omega) | omega), (by first | exact Nat.le_of_ble_eq_true rfl | (dsimp only; omega) | omega)⟩) hP hD hS hA [0, 1] [] rfl rfl rfl (by decide) (fun w1 H locs hp hP hD hS => ?_)
      obtain ⟨md_69, rfl, hm_69, hn_69, hn_69b⟩ := hp
      have hP : va_P (gD g) classes [(h0, .inr (4, [.ref a1, .int (nI (z_M_one ([] : List Int32) 91).length), .ref a2, .int n2, .ref a3, .ref a4, .int n3])), (a1, .inl (gI g, 200, .inl md_69))] H := hP
      have hD : va_D A [(h0, .inr (4, [.ref a1, .int (nI (z_M_one ([] : List Int32) 91).length), .ref a2, .int n2, .ref a3, .ref a4, .int n3])), (a1, .inl (gI g, 200, .inl md_69))] := hD
      refine lv_iinc (v := 1) (lv' := [(4, .int 1), (3, .int (f_M_plain t)), (0, .ref h0), (1, .int t), (2, .int wh)]) hx hb d_M_make_264 hl (k := 0) rfl (by first | rfl | decide) (by decide) rfl (fun ls hl => ?_)
      refine lv_goto (tgt := 249) hx hb d_M_make_267 (by decide) ?_
      refine lv_iload hx hb d_M_make_249 (lv_at hl 0 rfl) ?_
      refine lv_iload_n hx hb d_M_make_251 rfl (lv_at hl 3 rfl) ?_
      refine pm_callE hF hN (c_M_levels l t) k_M_levels j_M_113 ⟨Nat.le_of_ble_eq_true rfl, Nat.le_of_ble_eq_true rfl⟩ rfl hl.1 (Nat.le_of_ble_eq_true rfl) d_M_make_252 ⟨by first | omega | exact Nat.zero_le _, by first | omega | exact Nat.zero_le _⟩ ?_
      refine lv_icmp_ge (tgt := 270) hx hb d_M_make_255 (by decide) (fun c_71 => ?_) (fun c_71 => ?_)
      · skip
        refine lv_aload_n hx hb d_M_make_270 rfl (lv_at hl 2 rfl) ?_
        refine lv_iload_n hx hb d_M_make_271 rfl (lv_at hl 1 rfl) ?_
        refine lv_iconst (v := 1) hx hb d_M_make_272 (by decide) ?_
        refine go_v (wr := []) (run_V hF (c_M_addDescriptor g l _ h0 a1 a2 a3 a4 n2 n3 (z_M_one ([] : List Int32) 91) md_69 hm_69 (f_M_plain t) 1 (by omega)) k_M_addDescriptor j_M_144 se_M_M_addDescriptor (va_recv hK hP (ci := 4) (q0 := 0) rfl rfl) (cw_down G hP hD hS hA [0, 1] rfl rfl) ⟨Nat.le_of_ble_eq_true rfl, Nat.le_of_ble_eq_true rfl⟩ rfl hl.1 (Nat.le_of_ble_eq_true rfl) d_M_make_273 ⟨(by first | exact Nat.le_of_ble_eq_true rfl | (dsimp only; omega) | omega), (by first | exact Nat.le_of_ble_eq_true rfl | (dsimp only; omega) | omega)⟩) hP hD hS hA [0, 1] [] rfl rfl rfl (by decide) (fun w1 H locs hp hP hD hS => ?_)
        obtain ⟨md_73, rfl, hm_73, hn_73, hn_73b⟩ := hp
        have hP : va_P (gD g) classes [(h0, .inr (4, [.ref a1, .int (nI (z_M_addDescriptor (z_M_one ([] : List Int32) 91) (f_M_plain t) 1).length), .ref a2, .int n2, .ref a3, .ref a4, .int n3])), (a1, .inl (gI g, 200, .inl md_73))] H := hP
        have hD : va_D A [(h0, .inr (4, [.ref a1, .int (nI (z_M_addDescriptor (z_M_one ([] : List Int32) 91) (f_M_plain t) 1).length), .ref a2, .int n2, .ref a3, .ref a4, .int n3])), (a1, .inl (gI g, 200, .inl md_73))] := hD
        refine lv_iconst (v := 1) hx hb d_M_make_276 (by decide) ?_
        have e : zf_M_make t wh = ((z_M_addDescriptor (z_M_one ([] : List Int32) 91) (f_M_plain t) 1), (1 : Int32)) := by rw [zf_M_make, if_neg c_2, if_neg c_5, if_neg c_14, if_neg c_23, if_neg c_28, if_neg c_36, if_pos c_63, if_neg c_65, if_pos c_71]
        exact ret_i hx hb hr hlk (hP.sub (ws' := [(h0, .inr (4, [.ref a1, .int (nI (z_M_addDescriptor (z_M_one ([] : List Int32) 91) (f_M_plain t) 1).length), .ref a2, .int n2, .ref a3, .ref a4, .int n3])), (a1, .inl (gI g, 200, .inl md_73))]) [0, 1] rfl) (hD.sub (ws' := [(h0, .inr (4, [.ref a1, .int (nI (z_M_addDescriptor (z_M_one ([] : List Int32) 91) (f_M_plain t) 1).length), .ref a2, .int n2, .ref a3, .ref a4, .int n3])), (a1, .inl (gI g, 200, .inl md_73))]) [0, 1] rfl rfl) hS (by decide) ⟨md_73, by rw [e], by rw [e]; exact hm_73, by rw [e]⟩ (by first | exact Nat.le_of_ble_eq_true rfl | (dsimp only; omega) | omega) (by first | exact Nat.le_of_ble_eq_true rfl | (dsimp only; omega) | omega) d_M_make_277
      · skip
        refine lv_aload_n hx hb d_M_make_258 rfl (lv_at hl 2 rfl) ?_
        refine lv_bipush (v := 91) hx hb d_M_make_259 (by decide) ?_
        refine go_v (wr := []) (run_V hF (c_M_one g l _ h0 a1 a2 a3 a4 n2 n3 (z_M_one ([] : List Int32) 91) md_69 hm_69 91 (by omega)) k_M_one j_M_79 se_M_M_one (va_recv hK hP (ci := 4) (q0 := 0) rfl rfl) (cw_down G hP hD hS hA [0, 1] rfl rfl) ⟨Nat.le_of_ble_eq_true rfl, Nat.le_of_ble_eq_true rfl⟩ rfl hl.1 (Nat.le_of_ble_eq_true rfl) d_M_make_261 ⟨(by first | exact Nat.le_of_ble_eq_true rfl | (dsimp only; omega) | omega), (by first | exact Nat.le_of_ble_eq_true rfl | (dsimp only; omega) | omega)⟩) hP hD hS hA [0, 1] [] rfl rfl rfl (by decide) (fun w1 H locs hp hP hD hS => ?_)
        obtain ⟨md_75, rfl, hm_75, hn_75, hn_75b⟩ := hp
        have hP : va_P (gD g) classes [(h0, .inr (4, [.ref a1, .int (nI (z_M_one (z_M_one ([] : List Int32) 91) 91).length), .ref a2, .int n2, .ref a3, .ref a4, .int n3])), (a1, .inl (gI g, 200, .inl md_75))] H := hP
        have hD : va_D A [(h0, .inr (4, [.ref a1, .int (nI (z_M_one (z_M_one ([] : List Int32) 91) 91).length), .ref a2, .int n2, .ref a3, .ref a4, .int n3])), (a1, .inl (gI g, 200, .inl md_75))] := hD
        refine lv_iinc (v := 2) (lv' := [(4, .int 2), (3, .int (f_M_plain t)), (0, .ref h0), (1, .int t), (2, .int wh)]) hx hb d_M_make_264 hl (k := 0) rfl (by first | rfl | decide) (by decide) rfl (fun ls hl => ?_)
        refine lv_goto (tgt := 249) hx hb d_M_make_267 (by decide) ?_
        refine lv_iload hx hb d_M_make_249 (lv_at hl 0 rfl) ?_
        refine lv_iload_n hx hb d_M_make_251 rfl (lv_at hl 3 rfl) ?_
        refine pm_callE hF hN (c_M_levels l t) k_M_levels j_M_113 ⟨Nat.le_of_ble_eq_true rfl, Nat.le_of_ble_eq_true rfl⟩ rfl hl.1 (Nat.le_of_ble_eq_true rfl) d_M_make_252 ⟨by first | omega | exact Nat.zero_le _, by first | omega | exact Nat.zero_le _⟩ ?_
        refine lv_icmp_ge (tgt := 270) hx hb d_M_make_255 (by decide) (fun c_77 => ?_) (fun c_77 => absurd hL c_77)
        refine lv_aload_n hx hb d_M_make_270 rfl (lv_at hl 2 rfl) ?_
        refine lv_iload_n hx hb d_M_make_271 rfl (lv_at hl 1 rfl) ?_
        refine lv_iconst (v := 1) hx hb d_M_make_272 (by decide) ?_
        refine go_v (wr := []) (run_V hF (c_M_addDescriptor g l _ h0 a1 a2 a3 a4 n2 n3 (z_M_one (z_M_one ([] : List Int32) 91) 91) md_75 hm_75 (f_M_plain t) 1 (by omega)) k_M_addDescriptor j_M_144 se_M_M_addDescriptor (va_recv hK hP (ci := 4) (q0 := 0) rfl rfl) (cw_down G hP hD hS hA [0, 1] rfl rfl) ⟨Nat.le_of_ble_eq_true rfl, Nat.le_of_ble_eq_true rfl⟩ rfl hl.1 (Nat.le_of_ble_eq_true rfl) d_M_make_273 ⟨(by first | exact Nat.le_of_ble_eq_true rfl | (dsimp only; omega) | omega), (by first | exact Nat.le_of_ble_eq_true rfl | (dsimp only; omega) | omega)⟩) hP hD hS hA [0, 1] [] rfl rfl rfl (by decide) (fun w1 H locs hp hP hD hS => ?_)
        obtain ⟨md_79, rfl, hm_79, hn_79, hn_79b⟩ := hp
        have hP : va_P (gD g) classes [(h0, .inr (4, [.ref a1, .int (nI (z_M_addDescriptor (z_M_one (z_M_one ([] : List Int32) 91) 91) (f_M_plain t) 1).length), .ref a2, .int n2, .ref a3, .ref a4, .int n3])), (a1, .inl (gI g, 200, .inl md_79))] H := hP
        have hD : va_D A [(h0, .inr (4, [.ref a1, .int (nI (z_M_addDescriptor (z_M_one (z_M_one ([] : List Int32) 91) 91) (f_M_plain t) 1).length), .ref a2, .int n2, .ref a3, .ref a4, .int n3])), (a1, .inl (gI g, 200, .inl md_79))] := hD
        refine lv_iconst (v := 1) hx hb d_M_make_276 (by decide) ?_
        have e : zf_M_make t wh = ((z_M_addDescriptor (z_M_one (z_M_one ([] : List Int32) 91) 91) (f_M_plain t) 1), (1 : Int32)) := by rw [zf_M_make, if_neg c_2, if_neg c_5, if_neg c_14, if_neg c_23, if_neg c_28, if_neg c_36, if_pos c_63, if_neg c_65, if_neg c_71]
        exact ret_i hx hb hr hlk (hP.sub (ws' := [(h0, .inr (4, [.ref a1, .int (nI (z_M_addDescriptor (z_M_one (z_M_one ([] : List Int32) 91) 91) (f_M_plain t) 1).length), .ref a2, .int n2, .ref a3, .ref a4, .int n3])), (a1, .inl (gI g, 200, .inl md_79))]) [0, 1] rfl) (hD.sub (ws' := [(h0, .inr (4, [.ref a1, .int (nI (z_M_addDescriptor (z_M_one (z_M_one ([] : List Int32) 91) 91) (f_M_plain t) 1).length), .ref a2, .int n2, .ref a3, .ref a4, .int n3])), (a1, .inl (gI g, 200, .inl md_79))]) [0, 1] rfl rfl) hS (by decide) ⟨md_79, by rw [e], by rw [e]; exact hm_79, by rw [e]⟩ (by first | exact Nat.le_of_ble_eq_true rfl | (dsimp only; omega) | omega) (by first | exact Nat.le_of_ble_eq_true rfl | (dsimp only; omega) | omega) d_M_make_277
  refine lv_tableOut (tgt := 278) hx hb d_M_make_11 (by have := lv_neT (a := 0) c_2 (by decide); have := lv_neT (a := 1) c_5 (by decide); have := lv_neT (a := 2) c_14 (by decide); have := lv_neT (a := 3) c_23 (by decide); have := lv_neT (a := 4) c_28 (by decide); have := lv_neT (a := 5) c_36 (by decide); have := lv_neT (a := 6) c_63 (by decide); omega) (by decide) ?_
  refine lv_aload_n hx hb d_M_make_278 rfl (lv_at hl 1 rfl) ?_
  refine lv_iload_n hx hb d_M_make_279 rfl (lv_at hl 2 rfl) ?_
  refine go_v (wr := []) (run_V hF (c_M_addModifiers g l _ h0 a1 a2 a3 a4 n2 n3 ([] : List Int32) md hm0 t (by omega) hty) k_M_addModifiers j_M_164 se_M_M_addModifiers (va_recv hK hP (ci := 4) (q0 := 0) rfl rfl) (cw_down G hP hD hS hA [0, 1] rfl rfl) ⟨Nat.le_of_ble_eq_true rfl, Nat.le_of_ble_eq_true rfl⟩ rfl hl.1 (Nat.le_of_ble_eq_true rfl) d_M_make_280 ⟨(by first | exact Nat.le_of_ble_eq_true rfl | (dsimp only; omega) | omega), (by first | exact Nat.le_of_ble_eq_true rfl | (dsimp only; omega) | omega)⟩) hP hD hS hA [0, 1] [] rfl rfl rfl (by decide) (fun w1 H locs hp hP hD hS => ?_)
  obtain ⟨md_81, rfl, hm_81, hn_81, hn_81b⟩ := hp
  have hP : va_P (gD g) classes [(h0, .inr (4, [.ref a1, .int (nI (z_M_addModifiers ([] : List Int32) t).length), .ref a2, .int n2, .ref a3, .ref a4, .int n3])), (a1, .inl (gI g, 200, .inl md_81))] H := hP
  have hD : va_D A [(h0, .inr (4, [.ref a1, .int (nI (z_M_addModifiers ([] : List Int32) t).length), .ref a2, .int n2, .ref a3, .ref a4, .int n3])), (a1, .inl (gI g, 200, .inl md_81))] := hD
  refine lv_iconst (v := 1) hx hb d_M_make_283 (by decide) ?_
  have e : zf_M_make t wh = ((z_M_addModifiers ([] : List Int32) t), (1 : Int32)) := by rw [zf_M_make, if_neg c_2, if_neg c_5, if_neg c_14, if_neg c_23, if_neg c_28, if_neg c_36, if_neg c_63]
  exact ret_i hx hb hr hlk (hP.sub (ws' := [(h0, .inr (4, [.ref a1, .int (nI (z_M_addModifiers ([] : List Int32) t).length), .ref a2, .int n2, .ref a3, .ref a4, .int n3])), (a1, .inl (gI g, 200, .inl md_81))]) [0, 1] rfl) (hD.sub (ws' := [(h0, .inr (4, [.ref a1, .int (nI (z_M_addModifiers ([] : List Int32) t).length), .ref a2, .int n2, .ref a3, .ref a4, .int n3])), (a1, .inl (gI g, 200, .inl md_81))]) [0, 1] rfl rfl) hS (by decide) ⟨md_81, by rw [e], by rw [e]; exact hm_81, by rw [e]⟩ (by first | exact Nat.le_of_ble_eq_true rfl | (dsimp only; omega) | omega) (by first | exact Nat.le_of_ble_eq_true rfl | (dsimp only; omega) | omega) d_M_make_284
def f_M_size (t wh : Int32) : Int32 := (if (f_M_isType t) = 0 then (-1) else (if (f_M_in wh 0 7) = 0 then (-1) else (if (zf_M_make t wh).2 = 0 then (-2) else (nI (zf_M_make t wh).1.length))))
set_option maxRecDepth 100000 in
theorem k_M_size : ck y_M_size b_M_size 3 (some .int) 2 (.instanceMethod y_M_size) := ⟨tk_of (List.mem_of_getElem? (i := 811) rfl) rfl, tk_of (List.mem_of_getElem? (i := 809) (by decide +kernel)) rfl, tk_of (List.mem_of_getElem? (i := 43) (by decide +kernel)) rfl, by decide +kernel⟩
theorem j_M_170 : Cond.methodLink R_M 170 y_M_make ∈ tk := tk_of (List.mem_of_getElem? (i := 702) (by decide +kernel)) rfl
theorem se_M_M_make : Cond.selects R_M y_M_make y_M_make ∈ tk := tk_of (List.mem_of_getElem? (i := 20) (by decide +kernel)) rfl
set_option maxHeartbeats 4000000 in
set_option maxRecDepth 100000 in
theorem c_M_size (g : gT) (l : Launch) (sz : Nat) (h0 a1 a2 a3 a4 : Nat) (n2 n3 : Int32) (xs : List Int32) (md : Nat → Int32) (hm : mt xs md) (t wh : Int32) : Mg g l y_M_size b_M_size 3 (some .int) 7 158 1 16 [.ref h0, .int t, .int wh] [(h0, .inr (4, [.ref a1, .int (nI xs.length), .ref a2, .int n2, .ref a3, .ref a4, .int n3])), (a1, .inl (gI g, 200, .inl md))] sz (qI g (fun r w1 => ∃ (L : List Int32) (md' : Nat → Int32), w1 = [(h0, .inr (4, [.ref a1, .int (nI L.length), .ref a2, .int n2, .ref a3, .ref a4, .int n3])), (a1, .inl (gI g, 200, .inl md'))] ∧ mt L md' ∧ r = f_M_size t wh)) := by
  refine mg_of (by decide) (Nat.le_of_ble_eq_true rfl) ?_
  intro p e s m below meth c ls A hx hb hF hr hlk hnm hA G hP hD hS hl
  have hK := G.2.1
  have hN := G.1
  have hl : lv_has ls 3 [(0, .ref h0), (1, .int t), (2, .int wh)] := hl
  refine lv_iload_n hx hb d_M_size_0 rfl (lv_at hl 1 rfl) ?_
  refine pm_callE hF hN (c_M_isType l t) k_M_isType j_M_167 ⟨Nat.le_of_ble_eq_true rfl, Nat.le_of_ble_eq_true rfl⟩ rfl hl.1 (Nat.le_of_ble_eq_true rfl) d_M_size_1 ⟨by first | omega | exact Nat.zero_le _, by first | omega | exact Nat.zero_le _⟩ ?_
  refine lv_if_eq (tgt := 17) hx hb d_M_size_4 (by decide) (fun c_2 => ?_) (fun c_2 => ?_)
  · skip
    refine lv_iconst (v := (-1)) hx hb d_M_size_17 (by decide) ?_
    exact ret_i hx hb hr hlk (hP.sub (ws' := [(h0, .inr (4, [.ref a1, .int (nI xs.length), .ref a2, .int n2, .ref a3, .ref a4, .int n3])), (a1, .inl (gI g, 200, .inl md))]) [0, 1] rfl) (hD.sub (ws' := [(h0, .inr (4, [.ref a1, .int (nI xs.length), .ref a2, .int n2, .ref a3, .ref a4, .int n3])), (a1, .inl (gI g, 200, .inl md))]) [0, 1] rfl rfl) hS (nar_i _) ⟨xs, md, rfl, hm, by rw [f_M_size, if_pos c_2]⟩ (by first | exact Nat.le_of_ble_eq_true rfl | (dsimp only; omega) | omega) (by first | exact Nat.le_of_ble_eq_true rfl | (dsimp only; omega) | omega) d_M_size_18
  · skip
    refine lv_iload_n hx hb d_M_size_7 rfl (lv_at hl 2 rfl) ?_
    refine lv_iconst (v := 0) hx hb d_M_size_8 (by decide) ?_
    refine lv_bipush (v := 7) hx hb d_M_size_9 (by decide) ?_
    refine pm_callE hF hN (c_M_in l wh 0 7) k_M_in j_M_26 ⟨Nat.le_of_ble_eq_true rfl, Nat.le_of_ble_eq_true rfl⟩ rfl hl.1 (Nat.le_of_ble_eq_true rfl) d_M_size_11 ⟨by first | omega | exact Nat.zero_le _, by first | omega | exact Nat.zero_le _⟩ ?_
    refine lv_if_ne (tgt := 19) hx hb d_M_size_14 (by decide) (fun c_4 => ?_) (fun c_4 => ?_)
    · skip
      refine lv_aload_n hx hb d_M_size_19 rfl (lv_at hl 0 rfl) ?_
      refine lv_iload_n hx hb d_M_size_20 rfl (lv_at hl 1 rfl) ?_
      refine lv_iload_n hx hb d_M_size_21 rfl (lv_at hl 2 rfl) ?_
      refine go_i (wr := []) (run_V hF (c_M_make g l _ h0 a1 a2 a3 a4 n2 n3 xs md hm t wh c_2) k_M_make j_M_170 se_M_M_make (va_recv hK hP (ci := 4) (q0 := 0) rfl rfl) (cw_down G hP hD hS hA [0, 1] rfl rfl) ⟨Nat.le_of_ble_eq_true rfl, Nat.le_of_ble_eq_true rfl⟩ rfl hl.1 (Nat.le_of_ble_eq_true rfl) d_M_size_22 ⟨(by first | exact Nat.le_of_ble_eq_true rfl | (dsimp only; omega) | omega), (by first | exact Nat.le_of_ble_eq_true rfl | (dsimp only; omega) | omega)⟩) hP hD hS hA [0, 1] [] rfl rfl rfl (by decide) (fun r_5 w1 H locs hp hP hD hS => ?_)
      obtain ⟨md_6, rfl, hm_6, rfl⟩ := hp
      have hP : va_P (gD g) classes [(h0, .inr (4, [.ref a1, .int (nI (zf_M_make t wh).1.length), .ref a2, .int n2, .ref a3, .ref a4, .int n3])), (a1, .inl (gI g, 200, .inl md_6))] H := hP
      have hD : va_D A [(h0, .inr (4, [.ref a1, .int (nI (zf_M_make t wh).1.length), .ref a2, .int n2, .ref a3, .ref a4, .int n3])), (a1, .inl (gI g, 200, .inl md_6))] := hD
      refine lv_if_eq (tgt := 35) hx hb d_M_size_25 (by decide) (fun c_7 => ?_) (fun c_7 => ?_)
      · skip
        refine lv_bipush (v := (-2)) hx hb d_M_size_35 (by decide) ?_
        exact ret_i hx hb hr hlk (hP.sub (ws' := [(h0, .inr (4, [.ref a1, .int (nI (zf_M_make t wh).1.length), .ref a2, .int n2, .ref a3, .ref a4, .int n3])), (a1, .inl (gI g, 200, .inl md_6))]) [0, 1] rfl) (hD.sub (ws' := [(h0, .inr (4, [.ref a1, .int (nI (zf_M_make t wh).1.length), .ref a2, .int n2, .ref a3, .ref a4, .int n3])), (a1, .inl (gI g, 200, .inl md_6))]) [0, 1] rfl rfl) hS (nar_i _) ⟨(zf_M_make t wh).1, md_6, rfl, hm_6, by rw [f_M_size, if_neg c_2, if_neg c_4, if_pos c_7]⟩ (by first | exact Nat.le_of_ble_eq_true rfl | (dsimp only; omega) | omega) (by first | exact Nat.le_of_ble_eq_true rfl | (dsimp only; omega) | omega) d_M_size_37
      · skip
        refine lv_aload_n hx hb d_M_size_28 rfl (lv_at hl 0 rfl) ?_
        refine va_get (D := gD g) (ci := 4) (v := .int (nI (zf_M_make t wh).1.length)) (C := R_M) (T := F_M) (N := 7) hx hb hF.2.2.2.2 in_M hF.2.2.2.1 hK hP 0 rfl rfl 1 (by decide) (hF.2.2.2.2 _ fl_M_76) (fun _ h9 => h9) rfl d_M_size_29 ?_
        refine lv_goto (tgt := 37) hx hb d_M_size_32 (by decide) ?_
        exact ret_i hx hb hr hlk (hP.sub (ws' := [(h0, .inr (4, [.ref a1, .int (nI (zf_M_make t wh).1.length), .ref a2, .int n2, .ref a3, .ref a4, .int n3])), (a1, .inl (gI g, 200, .inl md_6))]) [0, 1] rfl) (hD.sub (ws' := [(h0, .inr (4, [.ref a1, .int (nI (zf_M_make t wh).1.length), .ref a2, .int n2, .ref a3, .ref a4, .int n3])), (a1, .inl (gI g, 200, .inl md_6))]) [0, 1] rfl rfl) hS (nar_i _) ⟨(zf_M_make t wh).1, md_6, rfl, hm_6, by rw [f_M_size, if_neg c_2, if_neg c_4, if_neg c_7]⟩ (by first | exact Nat.le_of_ble_eq_true rfl | (dsimp only; omega) | omega) (by first | exact Nat.le_of_ble_eq_true rfl | (dsimp only; omega) | omega) d_M_size_37
    · skip
      refine lv_iconst (v := (-1)) hx hb d_M_size_17 (by decide) ?_
      exact ret_i hx hb hr hlk (hP.sub (ws' := [(h0, .inr (4, [.ref a1, .int (nI xs.length), .ref a2, .int n2, .ref a3, .ref a4, .int n3])), (a1, .inl (gI g, 200, .inl md))]) [0, 1] rfl) (hD.sub (ws' := [(h0, .inr (4, [.ref a1, .int (nI xs.length), .ref a2, .int n2, .ref a3, .ref a4, .int n3])), (a1, .inl (gI g, 200, .inl md))]) [0, 1] rfl rfl) hS (nar_i _) ⟨xs, md, rfl, hm, by rw [f_M_size, if_neg c_2, if_pos c_4]⟩ (by first | exact Nat.le_of_ble_eq_true rfl | (dsimp only; omega) | omega) (by first | exact Nat.le_of_ble_eq_true rfl | (dsimp only; omega) | omega) d_M_size_18
def f_M_letter (t wh i : Int32) : Int32 := (if (f_M_isType t) = 0 then (-1) else (if (f_M_in wh 0 7) = 0 then (-1) else (if (zf_M_make t wh).2 = 0 then (-2) else (if i < 0 then 0 else (if i < (nI (zf_M_make t wh).1.length) then ((zf_M_make t wh).1.getD i.toNatClampNeg 0) else 0)))))
set_option maxRecDepth 100000 in
theorem k_M_letter : ck y_M_letter b_M_letter 4 (some .int) 3 (.instanceMethod y_M_letter) := ⟨tk_of (List.mem_of_getElem? (i := 695) rfl) rfl, tk_of (List.mem_of_getElem? (i := 693) (by decide +kernel)) rfl, tk_of (List.mem_of_getElem? (i := 43) (by decide +kernel)) rfl, by decide +kernel⟩
set_option maxHeartbeats 4000000 in
set_option maxRecDepth 100000 in
theorem c_M_letter (g : gT) (l : Launch) (sz : Nat) (h0 a1 a2 a3 a4 : Nat) (n2 n3 : Int32) (xs : List Int32) (md : Nat → Int32) (hm : mt xs md) (t wh i : Int32) : Mg g l y_M_letter b_M_letter 4 (some .int) 7 158 1 16 [.ref h0, .int t, .int wh, .int i] [(h0, .inr (4, [.ref a1, .int (nI xs.length), .ref a2, .int n2, .ref a3, .ref a4, .int n3])), (a1, .inl (gI g, 200, .inl md))] sz (qI g (fun r w1 => ∃ (L : List Int32) (md' : Nat → Int32), w1 = [(h0, .inr (4, [.ref a1, .int (nI L.length), .ref a2, .int n2, .ref a3, .ref a4, .int n3])), (a1, .inl (gI g, 200, .inl md'))] ∧ mt L md' ∧ r = f_M_letter t wh i)) := by
  refine mg_of (by decide) (Nat.le_of_ble_eq_true rfl) ?_
  intro p e s m below meth c ls A hx hb hF hr hlk hnm hA G hP hD hS hl
  have hK := G.2.1
  have hN := G.1
  have hl : lv_has ls 4 [(0, .ref h0), (1, .int t), (2, .int wh), (3, .int i)] := hl
  refine lv_iload_n hx hb d_M_letter_0 rfl (lv_at hl 1 rfl) ?_
  refine pm_callE hF hN (c_M_isType l t) k_M_isType j_M_167 ⟨Nat.le_of_ble_eq_true rfl, Nat.le_of_ble_eq_true rfl⟩ rfl hl.1 (Nat.le_of_ble_eq_true rfl) d_M_letter_1 ⟨by first | omega | exact Nat.zero_le _, by first | omega | exact Nat.zero_le _⟩ ?_
  refine lv_if_eq (tgt := 17) hx hb d_M_letter_4 (by decide) (fun c_2 => ?_) (fun c_2 => ?_)
  · skip
    refine lv_iconst (v := (-1)) hx hb d_M_letter_17 (by decide) ?_
    exact ret_i hx hb hr hlk (hP.sub (ws' := [(h0, .inr (4, [.ref a1, .int (nI xs.length), .ref a2, .int n2, .ref a3, .ref a4, .int n3])), (a1, .inl (gI g, 200, .inl md))]) [0, 1] rfl) (hD.sub (ws' := [(h0, .inr (4, [.ref a1, .int (nI xs.length), .ref a2, .int n2, .ref a3, .ref a4, .int n3])), (a1, .inl (gI g, 200, .inl md))]) [0, 1] rfl rfl) hS (nar_i _) ⟨xs, md, rfl, hm, by rw [f_M_letter, if_pos c_2]⟩ (by first | exact Nat.le_of_ble_eq_true rfl | (dsimp only; omega) | omega) (by first | exact Nat.le_of_ble_eq_true rfl | (dsimp only; omega) | omega) d_M_letter_18
  · skip
    refine lv_iload_n hx hb d_M_letter_7 rfl (lv_at hl 2 rfl) ?_
    refine lv_iconst (v := 0) hx hb d_M_letter_8 (by decide) ?_
    refine lv_bipush (v := 7) hx hb d_M_letter_9 (by decide) ?_
    refine pm_callE hF hN (c_M_in l wh 0 7) k_M_in j_M_26 ⟨Nat.le_of_ble_eq_true rfl, Nat.le_of_ble_eq_true rfl⟩ rfl hl.1 (Nat.le_of_ble_eq_true rfl) d_M_letter_11 ⟨by first | omega | exact Nat.zero_le _, by first | omega | exact Nat.zero_le _⟩ ?_
    refine lv_if_ne (tgt := 19) hx hb d_M_letter_14 (by decide) (fun c_4 => ?_) (fun c_4 => ?_)
    · skip
      refine lv_aload_n hx hb d_M_letter_19 rfl (lv_at hl 0 rfl) ?_
      refine lv_iload_n hx hb d_M_letter_20 rfl (lv_at hl 1 rfl) ?_
      refine lv_iload_n hx hb d_M_letter_21 rfl (lv_at hl 2 rfl) ?_
      refine go_i (wr := []) (run_V hF (c_M_make g l _ h0 a1 a2 a3 a4 n2 n3 xs md hm t wh c_2) k_M_make j_M_170 se_M_M_make (va_recv hK hP (ci := 4) (q0 := 0) rfl rfl) (cw_down G hP hD hS hA [0, 1] rfl rfl) ⟨Nat.le_of_ble_eq_true rfl, Nat.le_of_ble_eq_true rfl⟩ rfl hl.1 (Nat.le_of_ble_eq_true rfl) d_M_letter_22 ⟨(by first | exact Nat.le_of_ble_eq_true rfl | (dsimp only; omega) | omega), (by first | exact Nat.le_of_ble_eq_true rfl | (dsimp only; omega) | omega)⟩) hP hD hS hA [0, 1] [] rfl rfl rfl (by decide) (fun r_5 w1 H locs hp hP hD hS => ?_)
      obtain ⟨md_6, rfl, hm_6, rfl⟩ := hp
      have hP : va_P (gD g) classes [(h0, .inr (4, [.ref a1, .int (nI (zf_M_make t wh).1.length), .ref a2, .int n2, .ref a3, .ref a4, .int n3])), (a1, .inl (gI g, 200, .inl md_6))] H := hP
      have hD : va_D A [(h0, .inr (4, [.ref a1, .int (nI (zf_M_make t wh).1.length), .ref a2, .int n2, .ref a3, .ref a4, .int n3])), (a1, .inl (gI g, 200, .inl md_6))] := hD
      refine lv_if_ne (tgt := 31) hx hb d_M_letter_25 (by decide) (fun c_7 => ?_) (fun c_7 => ?_)
      · skip
        refine lv_iload_n hx hb d_M_letter_31 rfl (lv_at hl 3 rfl) ?_
        refine lv_if_lt (tgt := 43) hx hb d_M_letter_32 (by decide) (fun c_8 => ?_) (fun c_8 => ?_)
        · skip
          refine lv_iconst (v := 0) hx hb d_M_letter_43 (by decide) ?_
          refine lv_goto (tgt := 53) hx hb d_M_letter_44 (by decide) ?_
          exact ret_i hx hb hr hlk (hP.sub (ws' := [(h0, .inr (4, [.ref a1, .int (nI (zf_M_make t wh).1.length), .ref a2, .int n2, .ref a3, .ref a4, .int n3])), (a1, .inl (gI g, 200, .inl md_6))]) [0, 1] rfl) (hD.sub (ws' := [(h0, .inr (4, [.ref a1, .int (nI (zf_M_make t wh).1.length), .ref a2, .int n2, .ref a3, .ref a4, .int n3])), (a1, .inl (gI g, 200, .inl md_6))]) [0, 1] rfl rfl) hS (nar_i _) ⟨(zf_M_make t wh).1, md_6, rfl, hm_6, by rw [f_M_letter, if_neg c_2, if_neg c_4, if_neg c_7, if_pos c_8]⟩ (by first | exact Nat.le_of_ble_eq_true rfl | (dsimp only; omega) | omega) (by first | exact Nat.le_of_ble_eq_true rfl | (dsimp only; omega) | omega) d_M_letter_53
        · skip
          refine lv_iload_n hx hb d_M_letter_35 rfl (lv_at hl 3 rfl) ?_
          refine lv_aload_n hx hb d_M_letter_36 rfl (lv_at hl 0 rfl) ?_
          refine va_get (D := gD g) (ci := 4) (v := .int (nI (zf_M_make t wh).1.length)) (C := R_M) (T := F_M) (N := 7) hx hb hF.2.2.2.2 in_M hF.2.2.2.1 hK hP 0 rfl rfl 1 (by decide) (hF.2.2.2.2 _ fl_M_76) (fun _ h9 => h9) rfl d_M_letter_37 ?_
          refine lv_icmp_lt (tgt := 47) hx hb d_M_letter_40 (by decide) (fun c_9 => ?_) (fun c_9 => ?_)
          · skip
            refine lv_aload_n hx hb d_M_letter_47 rfl (lv_at hl 0 rfl) ?_
            refine va_get (D := gD g) (ci := 4) (v := .ref a1) (C := R_M) (T := F_M) (N := 7) hx hb hF.2.2.2.2 in_M hF.2.2.2.1 hK hP 0 rfl rfl 0 (by decide) (hF.2.2.2.2 _ fl_M_7) (fun _ h9 => h9) rfl d_M_letter_48 ?_
            refine lv_iload_n hx hb d_M_letter_51 rfl (lv_at hl 3 rfl) ?_
            have hix := m_ix hm_6.1 c_8 c_9
            refine va_iald hx hb hK hP 1 0 rfl rfl hix.1 d_M_letter_52 ?_
            refine tp_i (hm_6.2 _ hix.2) ?_
            exact ret_i hx hb hr hlk (hP.sub (ws' := [(h0, .inr (4, [.ref a1, .int (nI (zf_M_make t wh).1.length), .ref a2, .int n2, .ref a3, .ref a4, .int n3])), (a1, .inl (gI g, 200, .inl md_6))]) [0, 1] rfl) (hD.sub (ws' := [(h0, .inr (4, [.ref a1, .int (nI (zf_M_make t wh).1.length), .ref a2, .int n2, .ref a3, .ref a4, .int n3])), (a1, .inl (gI g, 200, .inl md_6))]) [0, 1] rfl rfl) hS (nar_i _) ⟨(zf_M_make t wh).1, md_6, rfl, hm_6, by rw [f_M_letter, if_neg c_2, if_neg c_4, if_neg c_7, if_neg c_8, if_pos c_9]⟩ (by first | exact Nat.le_of_ble_eq_true rfl | (dsimp only; omega) | omega) (by first | exact Nat.le_of_ble_eq_true rfl | (dsimp only; omega) | omega) d_M_letter_53
          · skip
            refine lv_iconst (v := 0) hx hb d_M_letter_43 (by decide) ?_
            refine lv_goto (tgt := 53) hx hb d_M_letter_44 (by decide) ?_
            exact ret_i hx hb hr hlk (hP.sub (ws' := [(h0, .inr (4, [.ref a1, .int (nI (zf_M_make t wh).1.length), .ref a2, .int n2, .ref a3, .ref a4, .int n3])), (a1, .inl (gI g, 200, .inl md_6))]) [0, 1] rfl) (hD.sub (ws' := [(h0, .inr (4, [.ref a1, .int (nI (zf_M_make t wh).1.length), .ref a2, .int n2, .ref a3, .ref a4, .int n3])), (a1, .inl (gI g, 200, .inl md_6))]) [0, 1] rfl rfl) hS (nar_i _) ⟨(zf_M_make t wh).1, md_6, rfl, hm_6, by rw [f_M_letter, if_neg c_2, if_neg c_4, if_neg c_7, if_neg c_8, if_neg c_9]⟩ (by first | exact Nat.le_of_ble_eq_true rfl | (dsimp only; omega) | omega) (by first | exact Nat.le_of_ble_eq_true rfl | (dsimp only; omega) | omega) d_M_letter_53
      · skip
        refine lv_bipush (v := (-2)) hx hb d_M_letter_28 (by decide) ?_
        exact ret_i hx hb hr hlk (hP.sub (ws' := [(h0, .inr (4, [.ref a1, .int (nI (zf_M_make t wh).1.length), .ref a2, .int n2, .ref a3, .ref a4, .int n3])), (a1, .inl (gI g, 200, .inl md_6))]) [0, 1] rfl) (hD.sub (ws' := [(h0, .inr (4, [.ref a1, .int (nI (zf_M_make t wh).1.length), .ref a2, .int n2, .ref a3, .ref a4, .int n3])), (a1, .inl (gI g, 200, .inl md_6))]) [0, 1] rfl rfl) hS (nar_i _) ⟨(zf_M_make t wh).1, md_6, rfl, hm_6, by rw [f_M_letter, if_neg c_2, if_neg c_4, if_pos c_7]⟩ (by first | exact Nat.le_of_ble_eq_true rfl | (dsimp only; omega) | omega) (by first | exact Nat.le_of_ble_eq_true rfl | (dsimp only; omega) | omega) d_M_letter_30
    · skip
      refine lv_iconst (v := (-1)) hx hb d_M_letter_17 (by decide) ?_
      exact ret_i hx hb hr hlk (hP.sub (ws' := [(h0, .inr (4, [.ref a1, .int (nI xs.length), .ref a2, .int n2, .ref a3, .ref a4, .int n3])), (a1, .inl (gI g, 200, .inl md))]) [0, 1] rfl) (hD.sub (ws' := [(h0, .inr (4, [.ref a1, .int (nI xs.length), .ref a2, .int n2, .ref a3, .ref a4, .int n3])), (a1, .inl (gI g, 200, .inl md))]) [0, 1] rfl rfl) hS (nar_i _) ⟨xs, md, rfl, hm, by rw [f_M_letter, if_neg c_2, if_pos c_4]⟩ (by first | exact Nat.le_of_ble_eq_true rfl | (dsimp only; omega) | omega) (by first | exact Nat.le_of_ble_eq_true rfl | (dsimp only; omega) | omega) d_M_letter_18
