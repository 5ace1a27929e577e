/-- what holds at the head of the law's loop -/
def lI (g : gT) (A : Nat → Prop) (p0 h0 N : Nat) (H : Heap) : Prop := ∃ (ha s0 b1 v1 q0 b2 v2 a1 a2 a3 a4 : Nat) (hp : Nat → Int32) (cp1 : Nat) (ml1 : Int32) (f1 : Nat → Int32) (xs1 : List Nat) (cp2 : Nat) (ml2 : Int32) (f2 : Nat → Int32) (xs2 : List Nat) (ys : List Int32) (md td hd gd : Nat → Int32), va_P (gD g) classes [(p0, .inr (0, [.ref ha, .ref s0, .ref q0])), (ha, .inl (gI g, 8, .inl hp)), (s0, .inr (1, [.ref b1])), (b1, .inr (3, [.ref v1, .int 0, .int ml1, .int (nI xs1.length)])), (v1, .inl (gB g, cp1, .inl f1)), (q0, .inr (2, [.ref b2])), (b2, .inr (3, [.ref v2, .int 0, .int ml2, .int (nI xs2.length)])), (v2, .inl (gB g, cp2, .inl f2)), (h0, .inr (4, [.ref a1, .int (nI ys.length), .ref a2, .int (nI (xs2.map nI).length), .ref a3, .ref a4, .int (nI (100 + N))])), (a1, .inl (gI g, 200, .inl md)), (a2, .inl (gI g, 40, .inl td)), (a3, .inl (gI g, 8, .inl hd)), (a4, .inl (gI g, 8, .inl gd))] H ∧ va_D A [(p0, .inr (0, [.ref ha, .ref s0, .ref q0])), (ha, .inl (gI g, 8, .inl hp)), (s0, .inr (1, [.ref b1])), (b1, .inr (3, [.ref v1, .int 0, .int ml1, .int (nI xs1.length)])), (v1, .inl (gB g, cp1, .inl f1)), (q0, .inr (2, [.ref b2])), (b2, .inr (3, [.ref v2, .int 0, .int ml2, .int (nI xs2.length)])), (v2, .inl (gB g, cp2, .inl f2)), (h0, .inr (4, [.ref a1, .int (nI ys.length), .ref a2, .int (nI (xs2.map nI).length), .ref a3, .ref a4, .int (nI (100 + N))])), (a1, .inl (gI g, 200, .inl md)), (a2, .inl (gI g, 40, .inl td)), (a3, .inl (gI g, 8, .inl hd)), (a4, .inl (gI g, 8, .inl gd))] ∧ tx xs1 cp1 f1 ∧ tx xs2 cp2 f2 ∧ xs2.length ≤ 40 ∧ mt ys md ∧ ty (xs2.map nI) td ∧ sR hp hd gd N ∧ ∀ j, hd j < 120
theorem l_k1 (i : Nat) : nI i + 1 = nI (i + 1) := by rw [show (1 : Int32) = nI 1 by decide, nI_add]
theorem l_k2 (i : Nat) : nI i + 2 = nI (i + 2) := by rw [show (2 : Int32) = nI 2 by decide, nI_add]
theorem l_k3 (i : Nat) : nI i + 3 = nI (i + 3) := by rw [show (3 : Int32) = nI 3 by decide, nI_add]
theorem l_k4 (i : Nat) : nI i + 4 = nI (i + 4) := by rw [show (4 : Int32) = nI 4 by decide, nI_add]
theorem put_lt {n : Int32} {hd gd : Nat → Int32} {i t : Int32} (h : ∀ j, hd j < 120) : ∀ j, (zp_M_put n hd gd i t).2.2.1 j < 120 := by
  have ht : f_M_isType t = 0 ∨ t < 120 := by
    by_cases q : f_M_isType t = 0
    · exact Or.inl q
    · obtain ⟨j, hj, rfl⟩ := isT_nI q
      exact Or.inr ((by decide +kernel : ∀ j : Nat, j < 120 → nI j < 120) j hj)
  rw [zp_M_put]
  by_cases h1 : f_M_in i 0 7 = 0
  · rw [if_pos h1]; exact h
  · rw [if_neg h1]
    by_cases h2 : t = -1
    · rw [if_pos h2]
      have h3 : t < 120 := by rw [h2]; decide
      split
      · exact h
      · split
        · exact u_lt h _ _ h3
        · exact u_lt h _ _ h3
    · rw [if_neg h2]
      by_cases h4 : f_M_isType t = 0
      · rw [if_pos h4]; exact h
      · rw [if_neg h4]
        have h3 : t < 120 := ht.resolve_left h4
        split
        · exact h
        · split
          · exact u_lt h _ _ h3
          · exact u_lt h _ _ h3
theorem j_L_13 : Cond.methodLink R_L 13 y_P_letter ∈ tk := tk_of (List.mem_of_getElem? (i := 125) (by decide +kernel)) rfl
theorem se_P_P_letter : Cond.selects R_P y_P_letter y_P_letter ∈ tk := tk_of (List.mem_of_getElem? (i := 127) (by decide +kernel)) rfl
theorem j_L_17 : Cond.methodLink R_L 17 y_M_letter ∈ tk := tk_of (List.mem_of_getElem? (i := 692) (by decide +kernel)) rfl
theorem se_M_M_letter : Cond.selects R_M y_M_letter y_M_letter ∈ tk := tk_of (List.mem_of_getElem? (i := 694) (by decide +kernel)) rfl
set_option maxHeartbeats 4000000 in
set_option maxRecDepth 100000 in
theorem lc_0 {p : Program} {l : Launch} {e : Env} {s : State} {m : MethodId} {below : List Frame} {meth : Method} {c : Code} {g : gT} {A : Nat → Prop} {Q : State → Prop} {b L : Nat} {xs : Nat → Int32} (hL : L ≤ 2048) (hx : p.tables.exec = Jvm.exec) (hb : c.code = b_L_law) (hF : CallFix p m c b_L_law 4 s #[Value.ref b] tk R_L) (hA : ∀ q, s.heap.size ≤ q → A q) (G : Gx g A s s.heap) (hX : va_X b L xs s s.heap) (hbl : b < s.heap.size) (hbA : ¬ A b) (p0 h0 i N cells slots : Nat) (hi : i + 4 ≤ L) (hN : N ≤ 100000) (hc : cells + 70 ≤ 600000) (hs : slots + 2300 ≤ 7302250)
    (hend : ∀ (N' : Nat) (H : Heap) (locs : List Loc) (ls : Array Slot) (cells' slots' : Nat), N' ≤ N + 1 → cells' ≤ cells + 70 → slots' ≤ slots + 2300 → lI g A p0 h0 N' H → va_S A s.heap H locs → lv_has ls 4 [(3, .int (nI i)), (0, .ref b), (1, .ref p0), (2, .ref h0)] → W p l e ({ frames := 17, cells := 600000, slots := 7302250, locals := 670 }) s m #[Value.ref b] below meth c H locs cells' slots' Q (F0 m 694 ls []))
    (H : Heap) (locs : List Loc) (ls : Array Slot) (hI : lI g A p0 h0 N H) (hS : va_S A s.heap H locs) (hl : lv_has ls 4 [(3, .int (nI i)), (0, .ref b), (1, .ref p0), (2, .ref h0)]) : W p l e ({ frames := 17, cells := 600000, slots := 7302250, locals := 670 }) s m #[Value.ref b] below meth c H locs cells slots Q (F0 m 120 ls []) := by
  have hK := G.2.1
  have hN0 := G.1
  obtain ⟨ha, s0, b1, v1, q0, b2, v2, a1, a2, a3, a4, hp, cp1, ml1, f1, xs1, cp2, ml2, f2, xs2, ys, md, td, hd, gd, hP, hD, ht1, ht2, h40, hm, hy, hR, hlt⟩ := hI
  refine lv_aload_n hx hb d_L_law_120 rfl (lv_at hl 2 rfl) ?_
  refine lv_aload_n hx hb d_L_law_121 rfl (lv_at hl 1 rfl) ?_
  refine lv_iload_n hx hb d_L_law_122 rfl (lv_at hl 0 rfl) ?_
  refine lv_iconst (v := 1) hx hb d_L_law_123 (by decide) ?_
  refine lv_iadd hx hb d_L_law_124 ?_
  refine tp_i (show nI i + 1 = nI (i + 1) from l_k1 i) ?_
  refine va_sld hx hb hX hbl hbA hS (vp_in_nI (n := i + 1) (N := L) (by omega) (by omega)) d_L_law_125 ?_
  refine lv_aload_n hx hb d_L_law_126 rfl (lv_at hl 1 rfl) ?_
  refine lv_iload_n hx hb d_L_law_127 rfl (lv_at hl 0 rfl) ?_
  refine lv_iconst (v := 2) hx hb d_L_law_128 (by decide) ?_
  refine lv_iadd hx hb d_L_law_129 ?_
  refine tp_i (show nI i + 2 = nI (i + 2) from l_k2 i) ?_
  refine va_sld hx hb hX hbl hbA hS (vp_in_nI (n := i + 2) (N := L) (by omega) (by omega)) d_L_law_130 ?_
  refine lv_aload_n hx hb d_L_law_131 rfl (lv_at hl 1 rfl) ?_
  refine lv_iload_n hx hb d_L_law_132 rfl (lv_at hl 0 rfl) ?_
  refine lv_iconst (v := 3) hx hb d_L_law_133 (by decide) ?_
  refine lv_iadd hx hb d_L_law_134 ?_
  refine tp_i (show nI i + 3 = nI (i + 3) from l_k3 i) ?_
  refine va_sld hx hb hX hbl hbA hS (vp_in_nI (n := i + 3) (N := L) (by omega) (by omega)) d_L_law_135 ?_
  refine go_i (wr := [(ha, .inl (gI g, 8, .inl hp)), (q0, .inr (2, [.ref b2])), (b2, .inr (3, [.ref v2, .int 0, .int ml2, .int (nI xs2.length)])), (v2, .inl (gB g, cp2, .inl f2)), (h0, .inr (4, [.ref a1, .int (nI ys.length), .ref a2, .int (nI (xs2.map nI).length), .ref a3, .ref a4, .int (nI (100 + N))])), (a1, .inl (gI g, 200, .inl md)), (a2, .inl (gI g, 40, .inl td)), (a3, .inl (gI g, 8, .inl hd)), (a4, .inl (gI g, 8, .inl gd))]) (run_V hF (c_P_letter g l _ p0 ha q0 s0 b1 v1 cp1 ml1 f1 xs1 ht1 (xs (nI (i + 1)).toNatClampNeg) (xs (nI (i + 2)).toNatClampNeg) (xs (nI (i + 3)).toNatClampNeg)) k_P_letter j_L_13 se_P_P_letter (va_recv hK hP (ci := 0) (q0 := 0) rfl rfl) (cw_down G hP hD hS hA [0, 2, 3, 4] rfl rfl) ⟨Nat.le_of_ble_eq_true rfl, Nat.le_of_ble_eq_true rfl⟩ rfl hl.1 (Nat.le_of_ble_eq_true rfl) d_L_law_136 ⟨(by first | exact Nat.le_of_ble_eq_true rfl | (dsimp only; omega) | omega), (by first | exact Nat.le_of_ble_eq_true rfl | (dsimp only; omega) | omega)⟩) hP hD hS hA [0, 2, 3, 4] [1, 5, 6, 7, 8, 9, 10, 11, 12] rfl rfl rfl (by decide) (fun r_1 w1 H locs hp1 hP hD hS => ?_)
  obtain ⟨L_2, v_2, cp_2, ml_2, f_2, rfl, ht_2, rfl⟩ := hp1
  have hP : va_P (gD g) classes [(ha, .inl (gI g, 8, .inl hp)), (q0, .inr (2, [.ref b2])), (b2, .inr (3, [.ref v2, .int 0, .int ml2, .int (nI xs2.length)])), (v2, .inl (gB g, cp2, .inl f2)), (h0, .inr (4, [.ref a1, .int (nI ys.length), .ref a2, .int (nI (xs2.map nI).length), .ref a3, .ref a4, .int (nI (100 + N))])), (a1, .inl (gI g, 200, .inl md)), (a2, .inl (gI g, 40, .inl td)), (a3, .inl (gI g, 8, .inl hd)), (a4, .inl (gI g, 8, .inl gd)), (p0, .inr (0, [.ref ha, .ref s0, .ref q0])), (s0, .inr (1, [.ref b1])), (b1, .inr (3, [.ref v_2, .int 0, .int ml_2, .int (nI L_2.length)])), (v_2, .inl (gB g, cp_2, .inl f_2))] H := hP
  have hD : va_D A [(ha, .inl (gI g, 8, .inl hp)), (q0, .inr (2, [.ref b2])), (b2, .inr (3, [.ref v2, .int 0, .int ml2, .int (nI xs2.length)])), (v2, .inl (gB g, cp2, .inl f2)), (h0, .inr (4, [.ref a1, .int (nI ys.length), .ref a2, .int (nI (xs2.map nI).length), .ref a3, .ref a4, .int (nI (100 + N))])), (a1, .inl (gI g, 200, .inl md)), (a2, .inl (gI g, 40, .inl td)), (a3, .inl (gI g, 8, .inl hd)), (a4, .inl (gI g, 8, .inl gd)), (p0, .inr (0, [.ref ha, .ref s0, .ref q0])), (s0, .inr (1, [.ref b1])), (b1, .inr (3, [.ref v_2, .int 0, .int ml_2, .int (nI L_2.length)])), (v_2, .inl (gB g, cp_2, .inl f_2))] := hD
  refine lv_aload_n hx hb d_L_law_139 rfl (lv_at hl 3 rfl) ?_
  refine lv_aload_n hx hb d_L_law_140 rfl (lv_at hl 1 rfl) ?_
  refine lv_iload_n hx hb d_L_law_141 rfl (lv_at hl 0 rfl) ?_
  refine lv_iconst (v := 1) hx hb d_L_law_142 (by decide) ?_
  refine lv_iadd hx hb d_L_law_143 ?_
  refine tp_i (show nI i + 1 = nI (i + 1) from l_k1 i) ?_
  refine va_sld hx hb hX hbl hbA hS (vp_in_nI (n := i + 1) (N := L) (by omega) (by omega)) d_L_law_144 ?_
  refine lv_aload_n hx hb d_L_law_145 rfl (lv_at hl 1 rfl) ?_
  refine lv_iload_n hx hb d_L_law_146 rfl (lv_at hl 0 rfl) ?_
  refine lv_iconst (v := 2) hx hb d_L_law_147 (by decide) ?_
  refine lv_iadd hx hb d_L_law_148 ?_
  refine tp_i (show nI i + 2 = nI (i + 2) from l_k2 i) ?_
  refine va_sld hx hb hX hbl hbA hS (vp_in_nI (n := i + 2) (N := L) (by omega) (by omega)) d_L_law_149 ?_
  refine lv_aload_n hx hb d_L_law_150 rfl (lv_at hl 1 rfl) ?_
  refine lv_iload_n hx hb d_L_law_151 rfl (lv_at hl 0 rfl) ?_
  refine lv_iconst (v := 3) hx hb d_L_law_152 (by decide) ?_
  refine lv_iadd hx hb d_L_law_153 ?_
  refine tp_i (show nI i + 3 = nI (i + 3) from l_k3 i) ?_
  refine va_sld hx hb hX hbl hbA hS (vp_in_nI (n := i + 3) (N := L) (by omega) (by omega)) d_L_law_154 ?_
  refine go_i (wr := [(ha, .inl (gI g, 8, .inl hp)), (q0, .inr (2, [.ref b2])), (b2, .inr (3, [.ref v2, .int 0, .int ml2, .int (nI xs2.length)])), (v2, .inl (gB g, cp2, .inl f2)), (a2, .inl (gI g, 40, .inl td)), (a3, .inl (gI g, 8, .inl hd)), (a4, .inl (gI g, 8, .inl gd)), (p0, .inr (0, [.ref ha, .ref s0, .ref q0])), (s0, .inr (1, [.ref b1])), (b1, .inr (3, [.ref v_2, .int 0, .int ml_2, .int (nI L_2.length)])), (v_2, .inl (gB g, cp_2, .inl f_2))]) (run_V hF (c_M_letter g l _ h0 a1 a2 a3 a4 (nI (xs2.map nI).length) (nI (100 + N)) ys md hm (xs (nI (i + 1)).toNatClampNeg) (xs (nI (i + 2)).toNatClampNeg) (xs (nI (i + 3)).toNatClampNeg)) k_M_letter j_L_17 se_M_M_letter (va_recv hK hP (ci := 4) (q0 := 4) rfl rfl) (cw_down G hP hD hS hA [4, 5] rfl rfl) ⟨Nat.le_of_ble_eq_true rfl, Nat.le_of_ble_eq_true rfl⟩ rfl hl.1 (Nat.le_of_ble_eq_true rfl) d_L_law_155 ⟨(by first | exact Nat.le_of_ble_eq_true rfl | (dsimp only; omega) | omega), (by first | exact Nat.le_of_ble_eq_true rfl | (dsimp only; omega) | omega)⟩) hP hD hS hA [4, 5] [0, 1, 2, 3, 6, 7, 8, 9, 10, 11, 12] rfl rfl rfl (by decide) (fun r_3 w1 H locs hp1 hP hD hS => ?_)
  obtain ⟨L_4, md_4, rfl, hm_4, rfl⟩ := hp1
  have hP : va_P (gD g) classes [(ha, .inl (gI g, 8, .inl hp)), (q0, .inr (2, [.ref b2])), (b2, .inr (3, [.ref v2, .int 0, .int ml2, .int (nI xs2.length)])), (v2, .inl (gB g, cp2, .inl f2)), (a2, .inl (gI g, 40, .inl td)), (a3, .inl (gI g, 8, .inl hd)), (a4, .inl (gI g, 8, .inl gd)), (p0, .inr (0, [.ref ha, .ref s0, .ref q0])), (s0, .inr (1, [.ref b1])), (b1, .inr (3, [.ref v_2, .int 0, .int ml_2, .int (nI L_2.length)])), (v_2, .inl (gB g, cp_2, .inl f_2)), (h0, .inr (4, [.ref a1, .int (nI L_4.length), .ref a2, .int (nI (xs2.map nI).length), .ref a3, .ref a4, .int (nI (100 + N))])), (a1, .inl (gI g, 200, .inl md_4))] H := hP
  have hD : va_D A [(ha, .inl (gI g, 8, .inl hp)), (q0, .inr (2, [.ref b2])), (b2, .inr (3, [.ref v2, .int 0, .int ml2, .int (nI xs2.length)])), (v2, .inl (gB g, cp2, .inl f2)), (a2, .inl (gI g, 40, .inl td)), (a3, .inl (gI g, 8, .inl hd)), (a4, .inl (gI g, 8, .inl gd)), (p0, .inr (0, [.ref ha, .ref s0, .ref q0])), (s0, .inr (1, [.ref b1])), (b1, .inr (3, [.ref v_2, .int 0, .int ml_2, .int (nI L_2.length)])), (v_2, .inl (gB g, cp_2, .inl f_2)), (h0, .inr (4, [.ref a1, .int (nI L_4.length), .ref a2, .int (nI (xs2.map nI).length), .ref a3, .ref a4, .int (nI (100 + N))])), (a1, .inl (gI g, 200, .inl md_4))] := hD
  refine lv_icmp_eq (tgt := 694) hx hb d_L_law_158 (by decide) (fun c_5 => ?_) (fun c_5 => absurd (e_letter _ _ _).symm c_5)
  exact hend N _ _ _ _ _ (Nat.le_succ _) (by first | exact Nat.le_of_ble_eq_true rfl | (dsimp only; omega) | omega) (by first | exact Nat.le_of_ble_eq_true rfl | (dsimp only; omega) | omega) ⟨_, _, _, _, _, _, _, _, _, _, _, _, _, _, _, _, _, _, _, _, _, _, _, _, _, hP.sub [7, 0, 8, 9, 10, 1, 2, 3, 11, 12, 4, 5, 6] rfl, hD.sub [7, 0, 8, 9, 10, 1, 2, 3, 11, 12, 4, 5, 6] rfl rfl, ht_2, ht2, h40, hm_4, hy, hR, hlt⟩ hS (lv_sub hl [0, 1, 2, 3] rfl)
theorem j_L_18 : Cond.methodLink R_L 18 y_P_size ∈ tk := tk_of (List.mem_of_getElem? (i := 450) (by decide +kernel)) rfl
theorem se_P_P_size : Cond.selects R_P y_P_size y_P_size ∈ tk := tk_of (List.mem_of_getElem? (i := 452) (by decide +kernel)) rfl
theorem j_L_22 : Cond.methodLink R_L 22 y_M_size ∈ tk := tk_of (List.mem_of_getElem? (i := 808) (by decide +kernel)) rfl
theorem se_M_M_size : Cond.selects R_M y_M_size y_M_size ∈ tk := tk_of (List.mem_of_getElem? (i := 810) (by decide +kernel)) rfl
set_option maxHeartbeats 4000000 in
set_option maxRecDepth 100000 in
theorem lc_1 {p : Program} {l : Launch} {e : Env} {s : State} {m : MethodId} {below : List Frame} {meth : Method} {c : Code} {g : gT} {A : Nat → Prop} {Q : State → Prop} {b L : Nat} {xs : Nat → Int32} (hL : L ≤ 2048) (hx : p.tables.exec = Jvm.exec) (hb : c.code = b_L_law) (hF : CallFix p m c b_L_law 4 s #[Value.ref b] tk R_L) (hA : ∀ q, s.heap.size ≤ q → A q) (G : Gx g A s s.heap) (hX : va_X b L xs s s.heap) (hbl : b < s.heap.size) (hbA : ¬ A b) (p0 h0 i N cells slots : Nat) (hi : i + 4 ≤ L) (hN : N ≤ 100000) (hc : cells + 70 ≤ 600000) (hs : slots + 2300 ≤ 7302250)
    (hend : ∀ (N' : Nat) (H : Heap) (locs : List Loc) (ls : Array Slot) (cells' slots' : Nat), N' ≤ N + 1 → cells' ≤ cells + 70 → slots' ≤ slots + 2300 → lI g A p0 h0 N' H → va_S A s.heap H locs → lv_has ls 4 [(3, .int (nI i)), (0, .ref b), (1, .ref p0), (2, .ref h0)] → W p l e ({ frames := 17, cells := 600000, slots := 7302250, locals := 670 }) s m #[Value.ref b] below meth c H locs cells' slots' Q (F0 m 694 ls []))
    (H : Heap) (locs : List Loc) (ls : Array Slot) (hI : lI g A p0 h0 N H) (hS : va_S A s.heap H locs) (hl : lv_has ls 4 [(3, .int (nI i)), (0, .ref b), (1, .ref p0), (2, .ref h0)]) : W p l e ({ frames := 17, cells := 600000, slots := 7302250, locals := 670 }) s m #[Value.ref b] below meth c H locs cells slots Q (F0 m 163 ls []) := by
  have hK := G.2.1
  have hN0 := G.1
  obtain ⟨ha, s0, b1, v1, q0, b2, v2, a1, a2, a3, a4, hp, cp1, ml1, f1, xs1, cp2, ml2, f2, xs2, ys, md, td, hd, gd, hP, hD, ht1, ht2, h40, hm, hy, hR, hlt⟩ := hI
  refine lv_aload_n hx hb d_L_law_163 rfl (lv_at hl 2 rfl) ?_
  refine lv_aload_n hx hb d_L_law_164 rfl (lv_at hl 1 rfl) ?_
  refine lv_iload_n hx hb d_L_law_165 rfl (lv_at hl 0 rfl) ?_
  refine lv_iconst (v := 1) hx hb d_L_law_166 (by decide) ?_
  refine lv_iadd hx hb d_L_law_167 ?_
  refine tp_i (show nI i + 1 = nI (i + 1) from l_k1 i) ?_
  refine va_sld hx hb hX hbl hbA hS (vp_in_nI (n := i + 1) (N := L) (by omega) (by omega)) d_L_law_168 ?_
  refine lv_aload_n hx hb d_L_law_169 rfl (lv_at hl 1 rfl) ?_
  refine lv_iload_n hx hb d_L_law_170 rfl (lv_at hl 0 rfl) ?_
  refine lv_iconst (v := 2) hx hb d_L_law_171 (by decide) ?_
  refine lv_iadd hx hb d_L_law_172 ?_
  refine tp_i (show nI i + 2 = nI (i + 2) from l_k2 i) ?_
  refine va_sld hx hb hX hbl hbA hS (vp_in_nI (n := i + 2) (N := L) (by omega) (by omega)) d_L_law_173 ?_
  refine go_i (wr := [(ha, .inl (gI g, 8, .inl hp)), (q0, .inr (2, [.ref b2])), (b2, .inr (3, [.ref v2, .int 0, .int ml2, .int (nI xs2.length)])), (v2, .inl (gB g, cp2, .inl f2)), (h0, .inr (4, [.ref a1, .int (nI ys.length), .ref a2, .int (nI (xs2.map nI).length), .ref a3, .ref a4, .int (nI (100 + N))])), (a1, .inl (gI g, 200, .inl md)), (a2, .inl (gI g, 40, .inl td)), (a3, .inl (gI g, 8, .inl hd)), (a4, .inl (gI g, 8, .inl gd))]) (run_V hF (c_P_size g l _ p0 ha q0 s0 b1 v1 cp1 ml1 f1 xs1 ht1 (xs (nI (i + 1)).toNatClampNeg) (xs (nI (i + 2)).toNatClampNeg)) k_P_size j_L_18 se_P_P_size (va_recv hK hP (ci := 0) (q0 := 0) rfl rfl) (cw_down G hP hD hS hA [0, 2, 3, 4] rfl rfl) ⟨Nat.le_of_ble_eq_true rfl, Nat.le_of_ble_eq_true rfl⟩ rfl hl.1 (Nat.le_of_ble_eq_true rfl) d_L_law_174 ⟨(by first | exact Nat.le_of_ble_eq_true rfl | (dsimp only; omega) | omega), (by first | exact Nat.le_of_ble_eq_true rfl | (dsimp only; omega) | omega)⟩) hP hD hS hA [0, 2, 3, 4] [1, 5, 6, 7, 8, 9, 10, 11, 12] rfl rfl rfl (by decide) (fun r_1 w1 H locs hp1 hP hD hS => ?_)
  obtain ⟨L_2, v_2, cp_2, ml_2, f_2, rfl, ht_2, rfl⟩ := hp1
  have hP : va_P (gD g) classes [(ha, .inl (gI g, 8, .inl hp)), (q0, .inr (2, [.ref b2])), (b2, .inr (3, [.ref v2, .int 0, .int ml2, .int (nI xs2.length)])), (v2, .inl (gB g, cp2, .inl f2)), (h0, .inr (4, [.ref a1, .int (nI ys.length), .ref a2, .int (nI (xs2.map nI).length), .ref a3, .ref a4, .int (nI (100 + N))])), (a1, .inl (gI g, 200, .inl md)), (a2, .inl (gI g, 40, .inl td)), (a3, .inl (gI g, 8, .inl hd)), (a4, .inl (gI g, 8, .inl gd)), (p0, .inr (0, [.ref ha, .ref s0, .ref q0])), (s0, .inr (1, [.ref b1])), (b1, .inr (3, [.ref v_2, .int 0, .int ml_2, .int (nI L_2.length)])), (v_2, .inl (gB g, cp_2, .inl f_2))] H := hP
  have hD : va_D A [(ha, .inl (gI g, 8, .inl hp)), (q0, .inr (2, [.ref b2])), (b2, .inr (3, [.ref v2, .int 0, .int ml2, .int (nI xs2.length)])), (v2, .inl (gB g, cp2, .inl f2)), (h0, .inr (4, [.ref a1, .int (nI ys.length), .ref a2, .int (nI (xs2.map nI).length), .ref a3, .ref a4, .int (nI (100 + N))])), (a1, .inl (gI g, 200, .inl md)), (a2, .inl (gI g, 40, .inl td)), (a3, .inl (gI g, 8, .inl hd)), (a4, .inl (gI g, 8, .inl gd)), (p0, .inr (0, [.ref ha, .ref s0, .ref q0])), (s0, .inr (1, [.ref b1])), (b1, .inr (3, [.ref v_2, .int 0, .int ml_2, .int (nI L_2.length)])), (v_2, .inl (gB g, cp_2, .inl f_2))] := hD
  refine lv_aload_n hx hb d_L_law_177 rfl (lv_at hl 3 rfl) ?_
  refine lv_aload_n hx hb d_L_law_178 rfl (lv_at hl 1 rfl) ?_
  refine lv_iload_n hx hb d_L_law_179 rfl (lv_at hl 0 rfl) ?_
  refine lv_iconst (v := 1) hx hb d_L_law_180 (by decide) ?_
  refine lv_iadd hx hb d_L_law_181 ?_
  refine tp_i (show nI i + 1 = nI (i + 1) from l_k1 i) ?_
  refine va_sld hx hb hX hbl hbA hS (vp_in_nI (n := i + 1) (N := L) (by omega) (by omega)) d_L_law_182 ?_
  refine lv_aload_n hx hb d_L_law_183 rfl (lv_at hl 1 rfl) ?_
  refine lv_iload_n hx hb d_L_law_184 rfl (lv_at hl 0 rfl) ?_
  refine lv_iconst (v := 2) hx hb d_L_law_185 (by decide) ?_
  refine lv_iadd hx hb d_L_law_186 ?_
  refine tp_i (show nI i + 2 = nI (i + 2) from l_k2 i) ?_
  refine va_sld hx hb hX hbl hbA hS (vp_in_nI (n := i + 2) (N := L) (by omega) (by omega)) d_L_law_187 ?_
  refine go_i (wr := [(ha, .inl (gI g, 8, .inl hp)), (q0, .inr (2, [.ref b2])), (b2, .inr (3, [.ref v2, .int 0, .int ml2, .int (nI xs2.length)])), (v2, .inl (gB g, cp2, .inl f2)), (a2, .inl (gI g, 40, .inl td)), (a3, .inl (gI g, 8, .inl hd)), (a4, .inl (gI g, 8, .inl gd)), (p0, .inr (0, [.ref ha, .ref s0, .ref q0])), (s0, .inr (1, [.ref b1])), (b1, .inr (3, [.ref v_2, .int 0, .int ml_2, .int (nI L_2.length)])), (v_2, .inl (gB g, cp_2, .inl f_2))]) (run_V hF (c_M_size g l _ h0 a1 a2 a3 a4 (nI (xs2.map nI).length) (nI (100 + N)) ys md hm (xs (nI (i + 1)).toNatClampNeg) (xs (nI (i + 2)).toNatClampNeg)) k_M_size j_L_22 se_M_M_size (va_recv hK hP (ci := 4) (q0 := 4) rfl rfl) (cw_down G hP hD hS hA [4, 5] rfl rfl) ⟨Nat.le_of_ble_eq_true rfl, Nat.le_of_ble_eq_true rfl⟩ rfl hl.1 (Nat.le_of_ble_eq_true rfl) d_L_law_188 ⟨(by first | exact Nat.le_of_ble_eq_true rfl | (dsimp only; omega) | omega), (by first | exact Nat.le_of_ble_eq_true rfl | (dsimp only; omega) | omega)⟩) hP hD hS hA [4, 5] [0, 1, 2, 3, 6, 7, 8, 9, 10, 11, 12] rfl rfl rfl (by decide) (fun r_3 w1 H locs hp1 hP hD hS => ?_)
  obtain ⟨L_4, md_4, rfl, hm_4, rfl⟩ := hp1
  have hP : va_P (gD g) classes [(ha, .inl (gI g, 8, .inl hp)), (q0, .inr (2, [.ref b2])), (b2, .inr (3, [.ref v2, .int 0, .int ml2, .int (nI xs2.length)])), (v2, .inl (gB g, cp2, .inl f2)), (a2, .inl (gI g, 40, .inl td)), (a3, .inl (gI g, 8, .inl hd)), (a4, .inl (gI g, 8, .inl gd)), (p0, .inr (0, [.ref ha, .ref s0, .ref q0])), (s0, .inr (1, [.ref b1])), (b1, .inr (3, [.ref v_2, .int 0, .int ml_2, .int (nI L_2.length)])), (v_2, .inl (gB g, cp_2, .inl f_2)), (h0, .inr (4, [.ref a1, .int (nI L_4.length), .ref a2, .int (nI (xs2.map nI).length), .ref a3, .ref a4, .int (nI (100 + N))])), (a1, .inl (gI g, 200, .inl md_4))] H := hP
  have hD : va_D A [(ha, .inl (gI g, 8, .inl hp)), (q0, .inr (2, [.ref b2])), (b2, .inr (3, [.ref v2, .int 0, .int ml2, .int (nI xs2.length)])), (v2, .inl (gB g, cp2, .inl f2)), (a2, .inl (gI g, 40, .inl td)), (a3, .inl (gI g, 8, .inl hd)), (a4, .inl (gI g, 8, .inl gd)), (p0, .inr (0, [.ref ha, .ref s0, .ref q0])), (s0, .inr (1, [.ref b1])), (b1, .inr (3, [.ref v_2, .int 0, .int ml_2, .int (nI L_2.length)])), (v_2, .inl (gB g, cp_2, .inl f_2)), (h0, .inr (4, [.ref a1, .int (nI L_4.length), .ref a2, .int (nI (xs2.map nI).length), .ref a3, .ref a4, .int (nI (100 + N))])), (a1, .inl (gI g, 200, .inl md_4))] := hD
  refine lv_icmp_eq (tgt := 694) hx hb d_L_law_191 (by decide) (fun c_5 => ?_) (fun c_5 => absurd (e_size _ _).symm c_5)
  exact hend N _ _ _ _ _ (Nat.le_succ _) (by first | exact Nat.le_of_ble_eq_true rfl | (dsimp only; omega) | omega) (by first | exact Nat.le_of_ble_eq_true rfl | (dsimp only; omega) | omega) ⟨_, _, _, _, _, _, _, _, _, _, _, _, _, _, _, _, _, _, _, _, _, _, _, _, _, hP.sub [7, 0, 8, 9, 10, 1, 2, 3, 11, 12, 4, 5, 6] rfl, hD.sub [7, 0, 8, 9, 10, 1, 2, 3, 11, 12, 4, 5, 6] rfl rfl, ht_2, ht2, h40, hm_4, hy, hR, hlt⟩ hS (lv_sub hl [0, 1, 2, 3] rfl)
theorem j_L_23 : Cond.methodLink R_L 23 y_P_flag ∈ tk := tk_of (List.mem_of_getElem? (i := 454) (by decide +kernel)) rfl
theorem se_P_P_flag : Cond.selects R_P y_P_flag y_P_flag ∈ tk := tk_of (List.mem_of_getElem? (i := 456) (by decide +kernel)) rfl
theorem j_L_27 : Cond.methodLink R_L 27 y_M_flag ∈ tk := tk_of (List.mem_of_getElem? (i := 812) (by decide +kernel)) rfl
theorem se_M_M_flag : Cond.selects R_M y_M_flag y_M_flag ∈ tk := tk_of (List.mem_of_getElem? (i := 814) (by decide +kernel)) rfl
set_option maxHeartbeats 4000000 in
set_option maxRecDepth 100000 in
theorem lc_2 {p : Program} {l : Launch} {e : Env} {s : State} {m : MethodId} {below : List Frame} {meth : Method} {c : Code} {g : gT} {A : Nat → Prop} {Q : State → Prop} {b L : Nat} {xs : Nat → Int32} (hL : L ≤ 2048) (hx : p.tables.exec = Jvm.exec) (hb : c.code = b_L_law) (hF : CallFix p m c b_L_law 4 s #[Value.ref b] tk R_L) (hA : ∀ q, s.heap.size ≤ q → A q) (G : Gx g A s s.heap) (hX : va_X b L xs s s.heap) (hbl : b < s.heap.size) (hbA : ¬ A b) (p0 h0 i N cells slots : Nat) (hi : i + 4 ≤ L) (hN : N ≤ 100000) (hc : cells + 70 ≤ 600000) (hs : slots + 2300 ≤ 7302250)
    (hend : ∀ (N' : Nat) (H : Heap) (locs : List Loc) (ls : Array Slot) (cells' slots' : Nat), N' ≤ N + 1 → cells' ≤ cells + 70 → slots' ≤ slots + 2300 → lI g A p0 h0 N' H → va_S A s.heap H locs → lv_has ls 4 [(3, .int (nI i)), (0, .ref b), (1, .ref p0), (2, .ref h0)] → W p l e ({ frames := 17, cells := 600000, slots := 7302250, locals := 670 }) s m #[Value.ref b] below meth c H locs cells' slots' Q (F0 m 694 ls []))
    (H : Heap) (locs : List Loc) (ls : Array Slot) (hI : lI g A p0 h0 N H) (hS : va_S A s.heap H locs) (hl : lv_has ls 4 [(3, .int (nI i)), (0, .ref b), (1, .ref p0), (2, .ref h0)]) : W p l e ({ frames := 17, cells := 600000, slots := 7302250, locals := 670 }) s m #[Value.ref b] below meth c H locs cells slots Q (F0 m 196 ls []) := by
  have hK := G.2.1
  have hN0 := G.1
  obtain ⟨ha, s0, b1, v1, q0, b2, v2, a1, a2, a3, a4, hp, cp1, ml1, f1, xs1, cp2, ml2, f2, xs2, ys, md, td, hd, gd, hP, hD, ht1, ht2, h40, hm, hy, hR, hlt⟩ := hI
  refine lv_aload_n hx hb d_L_law_196 rfl (lv_at hl 2 rfl) ?_
  refine lv_aload_n hx hb d_L_law_197 rfl (lv_at hl 1 rfl) ?_
  refine lv_iload_n hx hb d_L_law_198 rfl (lv_at hl 0 rfl) ?_
  refine lv_iconst (v := 1) hx hb d_L_law_199 (by decide) ?_
  refine lv_iadd hx hb d_L_law_200 ?_
  refine tp_i (show nI i + 1 = nI (i + 1) from l_k1 i) ?_
  refine va_sld hx hb hX hbl hbA hS (vp_in_nI (n := i + 1) (N := L) (by omega) (by omega)) d_L_law_201 ?_
  refine lv_aload_n hx hb d_L_law_202 rfl (lv_at hl 1 rfl) ?_
  refine lv_iload_n hx hb d_L_law_203 rfl (lv_at hl 0 rfl) ?_
  refine lv_iconst (v := 2) hx hb d_L_law_204 (by decide) ?_
  refine lv_iadd hx hb d_L_law_205 ?_
  refine tp_i (show nI i + 2 = nI (i + 2) from l_k2 i) ?_
  refine va_sld hx hb hX hbl hbA hS (vp_in_nI (n := i + 2) (N := L) (by omega) (by omega)) d_L_law_206 ?_
  refine pm_callVE hF hN0 (c_P_flag l p0 (xs (nI (i + 1)).toNatClampNeg) (xs (nI (i + 2)).toNatClampNeg)) k_P_flag j_L_23 se_P_P_flag (va_recv hK hP (ci := 0) (q0 := 0) rfl rfl) ⟨Nat.le_of_ble_eq_true rfl, Nat.le_of_ble_eq_true rfl⟩ rfl hl.1 (Nat.le_of_ble_eq_true rfl) d_L_law_207 ⟨(by first | exact Nat.le_of_ble_eq_true rfl | (dsimp only; omega) | omega), (by first | exact Nat.le_of_ble_eq_true rfl | (dsimp only; omega) | omega)⟩ ?_
  refine lv_aload_n hx hb d_L_law_210 rfl (lv_at hl 3 rfl) ?_
  refine lv_aload_n hx hb d_L_law_211 rfl (lv_at hl 1 rfl) ?_
  refine lv_iload_n hx hb d_L_law_212 rfl (lv_at hl 0 rfl) ?_
  refine lv_iconst (v := 1) hx hb d_L_law_213 (by decide) ?_
  refine lv_iadd hx hb d_L_law_214 ?_
  refine tp_i (show nI i + 1 = nI (i + 1) from l_k1 i) ?_
  refine va_sld hx hb hX hbl hbA hS (vp_in_nI (n := i + 1) (N := L) (by omega) (by omega)) d_L_law_215 ?_
  refine lv_aload_n hx hb d_L_law_216 rfl (lv_at hl 1 rfl) ?_
  refine lv_iload_n hx hb d_L_law_217 rfl (lv_at hl 0 rfl) ?_
  refine lv_iconst (v := 2) hx hb d_L_law_218 (by decide) ?_
  refine lv_iadd hx hb d_L_law_219 ?_
  refine tp_i (show nI i + 2 = nI (i + 2) from l_k2 i) ?_
  refine va_sld hx hb hX hbl hbA hS (vp_in_nI (n := i + 2) (N := L) (by omega) (by omega)) d_L_law_220 ?_
  refine pm_callVE hF hN0 (c_M_flag l h0 (xs (nI (i + 1)).toNatClampNeg) (xs (nI (i + 2)).toNatClampNeg)) k_M_flag j_L_27 se_M_M_flag (va_recv hK hP (ci := 4) (q0 := 8) rfl rfl) ⟨Nat.le_of_ble_eq_true rfl, Nat.le_of_ble_eq_true rfl⟩ rfl hl.1 (Nat.le_of_ble_eq_true rfl) d_L_law_221 ⟨(by first | exact Nat.le_of_ble_eq_true rfl | (dsimp only; omega) | omega), (by first | exact Nat.le_of_ble_eq_true rfl | (dsimp only; omega) | omega)⟩ ?_
  refine lv_icmp_eq (tgt := 694) hx hb d_L_law_224 (by decide) (fun c_1 => ?_) (fun c_1 => absurd (e_P_flag _ _) c_1)
  exact hend N _ _ _ _ _ (Nat.le_succ _) (by first | exact Nat.le_of_ble_eq_true rfl | (dsimp only; omega) | omega) (by first | exact Nat.le_of_ble_eq_true rfl | (dsimp only; omega) | omega) ⟨_, _, _, _, _, _, _, _, _, _, _, _, _, _, _, _, _, _, _, _, _, _, _, _, _, hP.sub [0, 1, 2, 3, 4, 5, 6, 7, 8, 9, 10, 11, 12] rfl, hD.sub [0, 1, 2, 3, 4, 5, 6, 7, 8, 9, 10, 11, 12] rfl rfl, ht1, ht2, h40, hm, hy, hR, hlt⟩ hS (lv_sub hl [0, 1, 2, 3] rfl)
theorem j_L_28 : Cond.methodLink R_L 28 y_P_number ∈ tk := tk_of (List.mem_of_getElem? (i := 466) (by decide +kernel)) rfl
theorem se_P_P_number : Cond.selects R_P y_P_number y_P_number ∈ tk := tk_of (List.mem_of_getElem? (i := 468) (by decide +kernel)) rfl
theorem j_L_31 : Cond.methodLink R_L 31 y_M_number ∈ tk := tk_of (List.mem_of_getElem? (i := 819) (by decide +kernel)) rfl
theorem se_M_M_number : Cond.selects R_M y_M_number y_M_number ∈ tk := tk_of (List.mem_of_getElem? (i := 821) (by decide +kernel)) rfl
set_option maxHeartbeats 4000000 in
set_option maxRecDepth 100000 in
theorem lc_3 {p : Program} {l : Launch} {e : Env} {s : State} {m : MethodId} {below : List Frame} {meth : Method} {c : Code} {g : gT} {A : Nat → Prop} {Q : State → Prop} {b L : Nat} {xs : Nat → Int32} (hL : L ≤ 2048) (hx : p.tables.exec = Jvm.exec) (hb : c.code = b_L_law) (hF : CallFix p m c b_L_law 4 s #[Value.ref b] tk R_L) (hA : ∀ q, s.heap.size ≤ q → A q) (G : Gx g A s s.heap) (hX : va_X b L xs s s.heap) (hbl : b < s.heap.size) (hbA : ¬ A b) (p0 h0 i N cells slots : Nat) (hi : i + 4 ≤ L) (hN : N ≤ 100000) (hc : cells + 70 ≤ 600000) (hs : slots + 2300 ≤ 7302250)
    (hend : ∀ (N' : Nat) (H : Heap) (locs : List Loc) (ls : Array Slot) (cells' slots' : Nat), N' ≤ N + 1 → cells' ≤ cells + 70 → slots' ≤ slots + 2300 → lI g A p0 h0 N' H → va_S A s.heap H locs → lv_has ls 4 [(3, .int (nI i)), (0, .ref b), (1, .ref p0), (2, .ref h0)] → W p l e ({ frames := 17, cells := 600000, slots := 7302250, locals := 670 }) s m #[Value.ref b] below meth c H locs cells' slots' Q (F0 m 694 ls []))
    (H : Heap) (locs : List Loc) (ls : Array Slot) (hI : lI g A p0 h0 N H) (hS : va_S A s.heap H locs) (hl : lv_has ls 4 [(3, .int (nI i)), (0, .ref b), (1, .ref p0), (2, .ref h0)]) : W p l e ({ frames := 17, cells := 600000, slots := 7302250, locals := 670 }) s m #[Value.ref b] below meth c H locs cells slots Q (F0 m 229 ls []) := by
  have hK := G.2.1
  have hN0 := G.1
  obtain ⟨ha, s0, b1, v1, q0, b2, v2, a1, a2, a3, a4, hp, cp1, ml1, f1, xs1, cp2, ml2, f2, xs2, ys, md, td, hd, gd, hP, hD, ht1, ht2, h40, hm, hy, hR, hlt⟩ := hI
  refine lv_aload_n hx hb d_L_law_229 rfl (lv_at hl 2 rfl) ?_
  refine lv_aload_n hx hb d_L_law_230 rfl (lv_at hl 1 rfl) ?_
  refine lv_iload_n hx hb d_L_law_231 rfl (lv_at hl 0 rfl) ?_
  refine lv_iconst (v := 1) hx hb d_L_law_232 (by decide) ?_
  refine lv_iadd hx hb d_L_law_233 ?_
  refine tp_i (show nI i + 1 = nI (i + 1) from l_k1 i) ?_
  refine va_sld hx hb hX hbl hbA hS (vp_in_nI (n := i + 1) (N := L) (by omega) (by omega)) d_L_law_234 ?_
  refine lv_aload_n hx hb d_L_law_235 rfl (lv_at hl 1 rfl) ?_
  refine lv_iload_n hx hb d_L_law_236 rfl (lv_at hl 0 rfl) ?_
  refine lv_iconst (v := 2) hx hb d_L_law_237 (by decide) ?_
  refine lv_iadd hx hb d_L_law_238 ?_
  refine tp_i (show nI i + 2 = nI (i + 2) from l_k2 i) ?_
  refine va_sld hx hb hX hbl hbA hS (vp_in_nI (n := i + 2) (N := L) (by omega) (by omega)) d_L_law_239 ?_
  refine pm_callVE hF hN0 (c_P_number l p0 (xs (nI (i + 1)).toNatClampNeg) (xs (nI (i + 2)).toNatClampNeg)) k_P_number j_L_28 se_P_P_number (va_recv hK hP (ci := 0) (q0 := 0) rfl rfl) ⟨Nat.le_of_ble_eq_true rfl, Nat.le_of_ble_eq_true rfl⟩ rfl hl.1 (Nat.le_of_ble_eq_true rfl) d_L_law_240 ⟨(by first | exact Nat.le_of_ble_eq_true rfl | (dsimp only; omega) | omega), (by first | exact Nat.le_of_ble_eq_true rfl | (dsimp only; omega) | omega)⟩ ?_
  refine lv_aload_n hx hb d_L_law_243 rfl (lv_at hl 3 rfl) ?_
  refine lv_aload_n hx hb d_L_law_244 rfl (lv_at hl 1 rfl) ?_
  refine lv_iload_n hx hb d_L_law_245 rfl (lv_at hl 0 rfl) ?_
  refine lv_iconst (v := 1) hx hb d_L_law_246 (by decide) ?_
  refine lv_iadd hx hb d_L_law_247 ?_
  refine tp_i (show nI i + 1 = nI (i + 1) from l_k1 i) ?_
  refine va_sld hx hb hX hbl hbA hS (vp_in_nI (n := i + 1) (N := L) (by omega) (by omega)) d_L_law_248 ?_
  refine lv_aload_n hx hb d_L_law_249 rfl (lv_at hl 1 rfl) ?_
  refine lv_iload_n hx hb d_L_law_250 rfl (lv_at hl 0 rfl) ?_
  refine lv_iconst (v := 2) hx hb d_L_law_251 (by decide) ?_
  refine lv_iadd hx hb d_L_law_252 ?_
  refine tp_i (show nI i + 2 = nI (i + 2) from l_k2 i) ?_
  refine va_sld hx hb hX hbl hbA hS (vp_in_nI (n := i + 2) (N := L) (by omega) (by omega)) d_L_law_253 ?_
  refine go_i (wr := [(p0, .inr (0, [.ref ha, .ref s0, .ref q0])), (ha, .inl (gI g, 8, .inl hp)), (s0, .inr (1, [.ref b1])), (b1, .inr (3, [.ref v1, .int 0, .int ml1, .int (nI xs1.length)])), (v1, .inl (gB g, cp1, .inl f1)), (q0, .inr (2, [.ref b2])), (b2, .inr (3, [.ref v2, .int 0, .int ml2, .int (nI xs2.length)])), (v2, .inl (gB g, cp2, .inl f2)), (a1, .inl (gI g, 200, .inl md)), (a2, .inl (gI g, 40, .inl td)), (a3, .inl (gI g, 8, .inl hd)), (a4, .inl (gI g, 8, .inl gd))]) (run_V hF (c_M_number g l _ h0 a1 a2 a3 a4 (nI ys.length) (nI (xs2.map nI).length) (nI (100 + N)) (xs (nI (i + 1)).toNatClampNeg) (xs (nI (i + 2)).toNatClampNeg)) k_M_number j_L_31 se_M_M_number (va_recv hK hP (ci := 4) (q0 := 8) rfl rfl) (cw_down G hP hD hS hA [8] rfl rfl) ⟨Nat.le_of_ble_eq_true rfl, Nat.le_of_ble_eq_true rfl⟩ rfl hl.1 (Nat.le_of_ble_eq_true rfl) d_L_law_254 ⟨(by first | exact Nat.le_of_ble_eq_true rfl | (dsimp only; omega) | omega), (by first | exact Nat.le_of_ble_eq_true rfl | (dsimp only; omega) | omega)⟩) hP hD hS hA [8] [0, 1, 2, 3, 4, 5, 6, 7, 9, 10, 11, 12] rfl rfl rfl (by decide) (fun r_1 w1 H locs hp1 hP hD hS => ?_)
  obtain ⟨rfl, rfl⟩ := hp1
  have hP : va_P (gD g) classes [(p0, .inr (0, [.ref ha, .ref s0, .ref q0])), (ha, .inl (gI g, 8, .inl hp)), (s0, .inr (1, [.ref b1])), (b1, .inr (3, [.ref v1, .int 0, .int ml1, .int (nI xs1.length)])), (v1, .inl (gB g, cp1, .inl f1)), (q0, .inr (2, [.ref b2])), (b2, .inr (3, [.ref v2, .int 0, .int ml2, .int (nI xs2.length)])), (v2, .inl (gB g, cp2, .inl f2)), (a1, .inl (gI g, 200, .inl md)), (a2, .inl (gI g, 40, .inl td)), (a3, .inl (gI g, 8, .inl hd)), (a4, .inl (gI g, 8, .inl gd)), (h0, .inr (4, [.ref a1, .int (nI ys.length), .ref a2, .int (nI (xs2.map nI).length), .ref a3, .ref a4, .int (nI (100 + N))]))] H := hP
  have hD : va_D A [(p0, .inr (0, [.ref ha, .ref s0, .ref q0])), (ha, .inl (gI g, 8, .inl hp)), (s0, .inr (1, [.ref b1])), (b1, .inr (3, [.ref v1, .int 0, .int ml1, .int (nI xs1.length)])), (v1, .inl (gB g, cp1, .inl f1)), (q0, .inr (2, [.ref b2])), (b2, .inr (3, [.ref v2, .int 0, .int ml2, .int (nI xs2.length)])), (v2, .inl (gB g, cp2, .inl f2)), (a1, .inl (gI g, 200, .inl md)), (a2, .inl (gI g, 40, .inl td)), (a3, .inl (gI g, 8, .inl hd)), (a4, .inl (gI g, 8, .inl gd)), (h0, .inr (4, [.ref a1, .int (nI ys.length), .ref a2, .int (nI (xs2.map nI).length), .ref a3, .ref a4, .int (nI (100 + N))]))] := hD
  refine lv_icmp_eq (tgt := 694) hx hb d_L_law_257 (by decide) (fun c_2 => ?_) (fun c_2 => absurd (e_P_number _ _) c_2)
  exact hend N _ _ _ _ _ (Nat.le_succ _) (by first | exact Nat.le_of_ble_eq_true rfl | (dsimp only; omega) | omega) (by first | exact Nat.le_of_ble_eq_true rfl | (dsimp only; omega) | omega) ⟨_, _, _, _, _, _, _, _, _, _, _, _, _, _, _, _, _, _, _, _, _, _, _, _, _, hP.sub [0, 1, 2, 3, 4, 5, 6, 7, 12, 8, 9, 10, 11] rfl, hD.sub [0, 1, 2, 3, 4, 5, 6, 7, 12, 8, 9, 10, 11] rfl rfl, ht1, ht2, h40, hm, hy, hR, hlt⟩ hS (lv_sub hl [0, 1, 2, 3] rfl)
theorem j_L_32 : Cond.methodLink R_L 32 y_P_related ∈ tk := tk_of (List.mem_of_getElem? (i := 486) (by decide +kernel)) rfl
theorem se_P_P_related : Cond.selects R_P y_P_related y_P_related ∈ tk := tk_of (List.mem_of_getElem? (i := 488) (by decide +kernel)) rfl
theorem j_L_35 : Cond.methodLink R_L 35 y_M_related ∈ tk := tk_of (List.mem_of_getElem? (i := 823) (by decide +kernel)) rfl
theorem se_M_M_related : Cond.selects R_M y_M_related y_M_related ∈ tk := tk_of (List.mem_of_getElem? (i := 825) (by decide +kernel)) rfl
set_option maxHeartbeats 4000000 in
set_option maxRecDepth 100000 in
theorem lc_4 {p : Program} {l : Launch} {e : Env} {s : State} {m : MethodId} {below : List Frame} {meth : Method} {c : Code} {g : gT} {A : Nat → Prop} {Q : State → Prop} {b L : Nat} {xs : Nat → Int32} (hL : L ≤ 2048) (hx : p.tables.exec = Jvm.exec) (hb : c.code = b_L_law) (hF : CallFix p m c b_L_law 4 s #[Value.ref b] tk R_L) (hA : ∀ q, s.heap.size ≤ q → A q) (G : Gx g A s s.heap) (hX : va_X b L xs s s.heap) (hbl : b < s.heap.size) (hbA : ¬ A b) (p0 h0 i N cells slots : Nat) (hi : i + 4 ≤ L) (hN : N ≤ 100000) (hc : cells + 70 ≤ 600000) (hs : slots + 2300 ≤ 7302250)
    (hend : ∀ (N' : Nat) (H : Heap) (locs : List Loc) (ls : Array Slot) (cells' slots' : Nat), N' ≤ N + 1 → cells' ≤ cells + 70 → slots' ≤ slots + 2300 → lI g A p0 h0 N' H → va_S A s.heap H locs → lv_has ls 4 [(3, .int (nI i)), (0, .ref b), (1, .ref p0), (2, .ref h0)] → W p l e ({ frames := 17, cells := 600000, slots := 7302250, locals := 670 }) s m #[Value.ref b] below meth c H locs cells' slots' Q (F0 m 694 ls []))
    (H : Heap) (locs : List Loc) (ls : Array Slot) (hI : lI g A p0 h0 N H) (hS : va_S A s.heap H locs) (hl : lv_has ls 4 [(3, .int (nI i)), (0, .ref b), (1, .ref p0), (2, .ref h0)]) : W p l e ({ frames := 17, cells := 600000, slots := 7302250, locals := 670 }) s m #[Value.ref b] below meth c H locs cells slots Q (F0 m 262 ls []) := by
  have hK := G.2.1
  have hN0 := G.1
  obtain ⟨ha, s0, b1, v1, q0, b2, v2, a1, a2, a3, a4, hp, cp1, ml1, f1, xs1, cp2, ml2, f2, xs2, ys, md, td, hd, gd, hP, hD, ht1, ht2, h40, hm, hy, hR, hlt⟩ := hI
  refine lv_aload_n hx hb d_L_law_262 rfl (lv_at hl 2 rfl) ?_
  refine lv_aload_n hx hb d_L_law_263 rfl (lv_at hl 1 rfl) ?_
  refine lv_iload_n hx hb d_L_law_264 rfl (lv_at hl 0 rfl) ?_
  refine lv_iconst (v := 1) hx hb d_L_law_265 (by decide) ?_
  refine lv_iadd hx hb d_L_law_266 ?_
  refine tp_i (show nI i + 1 = nI (i + 1) from l_k1 i) ?_
  refine va_sld hx hb hX hbl hbA hS (vp_in_nI (n := i + 1) (N := L) (by omega) (by omega)) d_L_law_267 ?_
  refine lv_aload_n hx hb d_L_law_268 rfl (lv_at hl 1 rfl) ?_
  refine lv_iload_n hx hb d_L_law_269 rfl (lv_at hl 0 rfl) ?_
  refine lv_iconst (v := 2) hx hb d_L_law_270 (by decide) ?_
  refine lv_iadd hx hb d_L_law_271 ?_
  refine tp_i (show nI i + 2 = nI (i + 2) from l_k2 i) ?_
  refine va_sld hx hb hX hbl hbA hS (vp_in_nI (n := i + 2) (N := L) (by omega) (by omega)) d_L_law_272 ?_
  refine pm_callVE hF hN0 (c_P_related l p0 (xs (nI (i + 1)).toNatClampNeg) (xs (nI (i + 2)).toNatClampNeg)) k_P_related j_L_32 se_P_P_related (va_recv hK hP (ci := 0) (q0 := 0) rfl rfl) ⟨Nat.le_of_ble_eq_true rfl, Nat.le_of_ble_eq_true rfl⟩ rfl hl.1 (Nat.le_of_ble_eq_true rfl) d_L_law_273 ⟨(by first | exact Nat.le_of_ble_eq_true rfl | (dsimp only; omega) | omega), (by first | exact Nat.le_of_ble_eq_true rfl | (dsimp only; omega) | omega)⟩ ?_
  refine lv_aload_n hx hb d_L_law_276 rfl (lv_at hl 3 rfl) ?_
  refine lv_aload_n hx hb d_L_law_277 rfl (lv_at hl 1 rfl) ?_
  refine lv_iload_n hx hb d_L_law_278 rfl (lv_at hl 0 rfl) ?_
  refine lv_iconst (v := 1) hx hb d_L_law_279 (by decide) ?_
  refine lv_iadd hx hb d_L_law_280 ?_
  refine tp_i (show nI i + 1 = nI (i + 1) from l_k1 i) ?_
  refine va_sld hx hb hX hbl hbA hS (vp_in_nI (n := i + 1) (N := L) (by omega) (by omega)) d_L_law_281 ?_
  refine lv_aload_n hx hb d_L_law_282 rfl (lv_at hl 1 rfl) ?_
  refine lv_iload_n hx hb d_L_law_283 rfl (lv_at hl 0 rfl) ?_
  refine lv_iconst (v := 2) hx hb d_L_law_284 (by decide) ?_
  refine lv_iadd hx hb d_L_law_285 ?_
  refine tp_i (show nI i + 2 = nI (i + 2) from l_k2 i) ?_
  refine va_sld hx hb hX hbl hbA hS (vp_in_nI (n := i + 2) (N := L) (by omega) (by omega)) d_L_law_286 ?_
  refine pm_callVE hF hN0 (c_M_related l h0 (xs (nI (i + 1)).toNatClampNeg) (xs (nI (i + 2)).toNatClampNeg)) k_M_related j_L_35 se_M_M_related (va_recv hK hP (ci := 4) (q0 := 8) rfl rfl) ⟨Nat.le_of_ble_eq_true rfl, Nat.le_of_ble_eq_true rfl⟩ rfl hl.1 (Nat.le_of_ble_eq_true rfl) d_L_law_287 ⟨(by first | exact Nat.le_of_ble_eq_true rfl | (dsimp only; omega) | omega), (by first | exact Nat.le_of_ble_eq_true rfl | (dsimp only; omega) | omega)⟩ ?_
  refine lv_icmp_eq (tgt := 694) hx hb d_L_law_290 (by decide) (fun c_1 => ?_) (fun c_1 => absurd (e_P_related _ _) c_1)
  exact hend N _ _ _ _ _ (Nat.le_succ _) (by first | exact Nat.le_of_ble_eq_true rfl | (dsimp only; omega) | omega) (by first | exact Nat.le_of_ble_eq_true rfl | (dsimp only; omega) | omega) ⟨_, _, _, _, _, _, _, _, _, _, _, _, _, _, _, _, _, _, _, _, _, _, _, _, _, hP.sub [0, 1, 2, 3, 4, 5, 6, 7, 8, 9, 10, 11, 12] rfl, hD.sub [0, 1, 2, 3, 4, 5, 6, 7, 8, 9, 10, 11, 12] rfl rfl, ht1, ht2, h40, hm, hy, hR, hlt⟩ hS (lv_sub hl [0, 1, 2, 3] rfl)
theorem j_L_36 : Cond.methodLink R_L 36 y_P_interfaceOf ∈ tk := tk_of (List.mem_of_getElem? (i := 501) (by decide +kernel)) rfl
theorem se_P_P_interfaceOf : Cond.selects R_P y_P_interfaceOf y_P_interfaceOf ∈ tk := tk_of (List.mem_of_getElem? (i := 503) (by decide +kernel)) rfl
theorem j_L_39 : Cond.methodLink R_L 39 y_M_interfaceOf ∈ tk := tk_of (List.mem_of_getElem? (i := 833) (by decide +kernel)) rfl
theorem se_M_M_interfaceOf : Cond.selects R_M y_M_interfaceOf y_M_interfaceOf ∈ tk := tk_of (List.mem_of_getElem? (i := 835) (by decide +kernel)) rfl
set_option maxHeartbeats 4000000 in
set_option maxRecDepth 100000 in
theorem lc_5 {p : Program} {l : Launch} {e : Env} {s : State} {m : MethodId} {below : List Frame} {meth : Method} {c : Code} {g : gT} {A : Nat → Prop} {Q : State → Prop} {b L : Nat} {xs : Nat → Int32} (hL : L ≤ 2048) (hx : p.tables.exec = Jvm.exec) (hb : c.code = b_L_law) (hF : CallFix p m c b_L_law 4 s #[Value.ref b] tk R_L) (hA : ∀ q, s.heap.size ≤ q → A q) (G : Gx g A s s.heap) (hX : va_X b L xs s s.heap) (hbl : b < s.heap.size) (hbA : ¬ A b) (p0 h0 i N cells slots : Nat) (hi : i + 4 ≤ L) (hN : N ≤ 100000) (hc : cells + 70 ≤ 600000) (hs : slots + 2300 ≤ 7302250)
    (hend : ∀ (N' : Nat) (H : Heap) (locs : List Loc) (ls : Array Slot) (cells' slots' : Nat), N' ≤ N + 1 → cells' ≤ cells + 70 → slots' ≤ slots + 2300 → lI g A p0 h0 N' H → va_S A s.heap H locs → lv_has ls 4 [(3, .int (nI i)), (0, .ref b), (1, .ref p0), (2, .ref h0)] → W p l e ({ frames := 17, cells := 600000, slots := 7302250, locals := 670 }) s m #[Value.ref b] below meth c H locs cells' slots' Q (F0 m 694 ls []))
    (H : Heap) (locs : List Loc) (ls : Array Slot) (hI : lI g A p0 h0 N H) (hS : va_S A s.heap H locs) (hl : lv_has ls 4 [(3, .int (nI i)), (0, .ref b), (1, .ref p0), (2, .ref h0)]) : W p l e ({ frames := 17, cells := 600000, slots := 7302250, locals := 670 }) s m #[Value.ref b] below meth c H locs cells slots Q (F0 m 295 ls []) := by
  have hK := G.2.1
  have hN0 := G.1
  obtain ⟨ha, s0, b1, v1, q0, b2, v2, a1, a2, a3, a4, hp, cp1, ml1, f1, xs1, cp2, ml2, f2, xs2, ys, md, td, hd, gd, hP, hD, ht1, ht2, h40, hm, hy, hR, hlt⟩ := hI
  refine lv_aload_n hx hb d_L_law_295 rfl (lv_at hl 2 rfl) ?_
  refine lv_aload_n hx hb d_L_law_296 rfl (lv_at hl 1 rfl) ?_
  refine lv_iload_n hx hb d_L_law_297 rfl (lv_at hl 0 rfl) ?_
  refine lv_iconst (v := 1) hx hb d_L_law_298 (by decide) ?_
  refine lv_iadd hx hb d_L_law_299 ?_
  refine tp_i (show nI i + 1 = nI (i + 1) from l_k1 i) ?_
  refine va_sld hx hb hX hbl hbA hS (vp_in_nI (n := i + 1) (N := L) (by omega) (by omega)) d_L_law_300 ?_
  refine lv_aload_n hx hb d_L_law_301 rfl (lv_at hl 1 rfl) ?_
  refine lv_iload_n hx hb d_L_law_302 rfl (lv_at hl 0 rfl) ?_
  refine lv_iconst (v := 2) hx hb d_L_law_303 (by decide) ?_
  refine lv_iadd hx hb d_L_law_304 ?_
  refine tp_i (show nI i + 2 = nI (i + 2) from l_k2 i) ?_
  refine va_sld hx hb hX hbl hbA hS (vp_in_nI (n := i + 2) (N := L) (by omega) (by omega)) d_L_law_305 ?_
  refine pm_callVE hF hN0 (c_P_interfaceOf l p0 (xs (nI (i + 1)).toNatClampNeg) (xs (nI (i + 2)).toNatClampNeg)) k_P_interfaceOf j_L_36 se_P_P_interfaceOf (va_recv hK hP (ci := 0) (q0 := 0) rfl rfl) ⟨Nat.le_of_ble_eq_true rfl, Nat.le_of_ble_eq_true rfl⟩ rfl hl.1 (Nat.le_of_ble_eq_true rfl) d_L_law_306 ⟨(by first | exact Nat.le_of_ble_eq_true rfl | (dsimp only; omega) | omega), (by first | exact Nat.le_of_ble_eq_true rfl | (dsimp only; omega) | omega)⟩ ?_
  refine lv_aload_n hx hb d_L_law_309 rfl (lv_at hl 3 rfl) ?_
  refine lv_aload_n hx hb d_L_law_310 rfl (lv_at hl 1 rfl) ?_
  refine lv_iload_n hx hb d_L_law_311 rfl (lv_at hl 0 rfl) ?_
  refine lv_iconst (v := 1) hx hb d_L_law_312 (by decide) ?_
  refine lv_iadd hx hb d_L_law_313 ?_
  refine tp_i (show nI i + 1 = nI (i + 1) from l_k1 i) ?_
  refine va_sld hx hb hX hbl hbA hS (vp_in_nI (n := i + 1) (N := L) (by omega) (by omega)) d_L_law_314 ?_
  refine lv_aload_n hx hb d_L_law_315 rfl (lv_at hl 1 rfl) ?_
  refine lv_iload_n hx hb d_L_law_316 rfl (lv_at hl 0 rfl) ?_
  refine lv_iconst (v := 2) hx hb d_L_law_317 (by decide) ?_
  refine lv_iadd hx hb d_L_law_318 ?_
  refine tp_i (show nI i + 2 = nI (i + 2) from l_k2 i) ?_
  refine va_sld hx hb hX hbl hbA hS (vp_in_nI (n := i + 2) (N := L) (by omega) (by omega)) d_L_law_319 ?_
  refine pm_callVE hF hN0 (c_M_interfaceOf l h0 (xs (nI (i + 1)).toNatClampNeg) (xs (nI (i + 2)).toNatClampNeg)) k_M_interfaceOf j_L_39 se_M_M_interfaceOf (va_recv hK hP (ci := 4) (q0 := 8) rfl rfl) ⟨Nat.le_of_ble_eq_true rfl, Nat.le_of_ble_eq_true rfl⟩ rfl hl.1 (Nat.le_of_ble_eq_true rfl) d_L_law_320 ⟨(by first | exact Nat.le_of_ble_eq_true rfl | (dsimp only; omega) | omega), (by first | exact Nat.le_of_ble_eq_true rfl | (dsimp only; omega) | omega)⟩ ?_
  refine lv_icmp_eq (tgt := 694) hx hb d_L_law_323 (by decide) (fun c_1 => ?_) (fun c_1 => absurd (e_P_interfaceOf _ _) c_1)
  exact hend N _ _ _ _ _ (Nat.le_succ _) (by first | exact Nat.le_of_ble_eq_true rfl | (dsimp only; omega) | omega) (by first | exact Nat.le_of_ble_eq_true rfl | (dsimp only; omega) | omega) ⟨_, _, _, _, _, _, _, _, _, _, _, _, _, _, _, _, _, _, _, _, _, _, _, _, _, hP.sub [0, 1, 2, 3, 4, 5, 6, 7, 8, 9, 10, 11, 12] rfl, hD.sub [0, 1, 2, 3, 4, 5, 6, 7, 8, 9, 10, 11, 12] rfl rfl, ht1, ht2, h40, hm, hy, hR, hlt⟩ hS (lv_sub hl [0, 1, 2, 3] rfl)
theorem j_L_40 : Cond.methodLink R_L 40 y_P_goesInto ∈ tk := tk_of (List.mem_of_getElem? (i := 509) (by decide +kernel)) rfl
theorem se_P_P_goesInto : Cond.selects R_P y_P_goesInto y_P_goesInto ∈ tk := tk_of (List.mem_of_getElem? (i := 511) (by decide +kernel)) rfl
theorem j_L_43 : Cond.methodLink R_L 43 y_M_goesInto ∈ tk := tk_of (List.mem_of_getElem? (i := 837) (by decide +kernel)) rfl
theorem se_M_M_goesInto : Cond.selects R_M y_M_goesInto y_M_goesInto ∈ tk := tk_of (List.mem_of_getElem? (i := 839) (by decide +kernel)) rfl
set_option maxHeartbeats 4000000 in
set_option maxRecDepth 100000 in
theorem lc_6 {p : Program} {l : Launch} {e : Env} {s : State} {m : MethodId} {below : List Frame} {meth : Method} {c : Code} {g : gT} {A : Nat → Prop} {Q : State → Prop} {b L : Nat} {xs : Nat → Int32} (hL : L ≤ 2048) (hx : p.tables.exec = Jvm.exec) (hb : c.code = b_L_law) (hF : CallFix p m c b_L_law 4 s #[Value.ref b] tk R_L) (hA : ∀ q, s.heap.size ≤ q → A q) (G : Gx g A s s.heap) (hX : va_X b L xs s s.heap) (hbl : b < s.heap.size) (hbA : ¬ A b) (p0 h0 i N cells slots : Nat) (hi : i + 4 ≤ L) (hN : N ≤ 100000) (hc : cells + 70 ≤ 600000) (hs : slots + 2300 ≤ 7302250)
    (hend : ∀ (N' : Nat) (H : Heap) (locs : List Loc) (ls : Array Slot) (cells' slots' : Nat), N' ≤ N + 1 → cells' ≤ cells + 70 → slots' ≤ slots + 2300 → lI g A p0 h0 N' H → va_S A s.heap H locs → lv_has ls 4 [(3, .int (nI i)), (0, .ref b), (1, .ref p0), (2, .ref h0)] → W p l e ({ frames := 17, cells := 600000, slots := 7302250, locals := 670 }) s m #[Value.ref b] below meth c H locs cells' slots' Q (F0 m 694 ls []))
    (H : Heap) (locs : List Loc) (ls : Array Slot) (hI : lI g A p0 h0 N H) (hS : va_S A s.heap H locs) (hl : lv_has ls 4 [(3, .int (nI i)), (0, .ref b), (1, .ref p0), (2, .ref h0)]) : W p l e ({ frames := 17, cells := 600000, slots := 7302250, locals := 670 }) s m #[Value.ref b] below meth c H locs cells slots Q (F0 m 328 ls []) := by
  have hK := G.2.1
  have hN0 := G.1
  obtain ⟨ha, s0, b1, v1, q0, b2, v2, a1, a2, a3, a4, hp, cp1, ml1, f1, xs1, cp2, ml2, f2, xs2, ys, md, td, hd, gd, hP, hD, ht1, ht2, h40, hm, hy, hR, hlt⟩ := hI
  refine lv_aload_n hx hb d_L_law_328 rfl (lv_at hl 2 rfl) ?_
  refine lv_aload_n hx hb d_L_law_329 rfl (lv_at hl 1 rfl) ?_
  refine lv_iload_n hx hb d_L_law_330 rfl (lv_at hl 0 rfl) ?_
  refine lv_iconst (v := 1) hx hb d_L_law_331 (by decide) ?_
  refine lv_iadd hx hb d_L_law_332 ?_
  refine tp_i (show nI i + 1 = nI (i + 1) from l_k1 i) ?_
  refine va_sld hx hb hX hbl hbA hS (vp_in_nI (n := i + 1) (N := L) (by omega) (by omega)) d_L_law_333 ?_
  refine lv_aload_n hx hb d_L_law_334 rfl (lv_at hl 1 rfl) ?_
  refine lv_iload_n hx hb d_L_law_335 rfl (lv_at hl 0 rfl) ?_
  refine lv_iconst (v := 2) hx hb d_L_law_336 (by decide) ?_
  refine lv_iadd hx hb d_L_law_337 ?_
  refine tp_i (show nI i + 2 = nI (i + 2) from l_k2 i) ?_
  refine va_sld hx hb hX hbl hbA hS (vp_in_nI (n := i + 2) (N := L) (by omega) (by omega)) d_L_law_338 ?_
  refine pm_callVE hF hN0 (c_P_goesInto l p0 (xs (nI (i + 1)).toNatClampNeg) (xs (nI (i + 2)).toNatClampNeg)) k_P_goesInto j_L_40 se_P_P_goesInto (va_recv hK hP (ci := 0) (q0 := 0) rfl rfl) ⟨Nat.le_of_ble_eq_true rfl, Nat.le_of_ble_eq_true rfl⟩ rfl hl.1 (Nat.le_of_ble_eq_true rfl) d_L_law_339 ⟨(by first | exact Nat.le_of_ble_eq_true rfl | (dsimp only; omega) | omega), (by first | exact Nat.le_of_ble_eq_true rfl | (dsimp only; omega) | omega)⟩ ?_
  refine lv_aload_n hx hb d_L_law_342 rfl (lv_at hl 3 rfl) ?_
  refine lv_aload_n hx hb d_L_law_343 rfl (lv_at hl 1 rfl) ?_
  refine lv_iload_n hx hb d_L_law_344 rfl (lv_at hl 0 rfl) ?_
  refine lv_iconst (v := 1) hx hb d_L_law_345 (by decide) ?_
  refine lv_iadd hx hb d_L_law_346 ?_
  refine tp_i (show nI i + 1 = nI (i + 1) from l_k1 i) ?_
  refine va_sld hx hb hX hbl hbA hS (vp_in_nI (n := i + 1) (N := L) (by omega) (by omega)) d_L_law_347 ?_
  refine lv_aload_n hx hb d_L_law_348 rfl (lv_at hl 1 rfl) ?_
  refine lv_iload_n hx hb d_L_law_349 rfl (lv_at hl 0 rfl) ?_
  refine lv_iconst (v := 2) hx hb d_L_law_350 (by decide) ?_
  refine lv_iadd hx hb d_L_law_351 ?_
  refine tp_i (show nI i + 2 = nI (i + 2) from l_k2 i) ?_
  refine va_sld hx hb hX hbl hbA hS (vp_in_nI (n := i + 2) (N := L) (by omega) (by omega)) d_L_law_352 ?_
  refine pm_callVE hF hN0 (c_M_goesInto l h0 (xs (nI (i + 1)).toNatClampNeg) (xs (nI (i + 2)).toNatClampNeg)) k_M_goesInto j_L_43 se_M_M_goesInto (va_recv hK hP (ci := 4) (q0 := 8) rfl rfl) ⟨Nat.le_of_ble_eq_true rfl, Nat.le_of_ble_eq_true rfl⟩ rfl hl.1 (Nat.le_of_ble_eq_true rfl) d_L_law_353 ⟨(by first | exact Nat.le_of_ble_eq_true rfl | (dsimp only; omega) | omega), (by first | exact Nat.le_of_ble_eq_true rfl | (dsimp only; omega) | omega)⟩ ?_
  refine lv_icmp_eq (tgt := 694) hx hb d_L_law_356 (by decide) (fun c_1 => ?_) (fun c_1 => absurd (e_P_goesInto _ _) c_1)
  exact hend N _ _ _ _ _ (Nat.le_succ _) (by first | exact Nat.le_of_ble_eq_true rfl | (dsimp only; omega) | omega) (by first | exact Nat.le_of_ble_eq_true rfl | (dsimp only; omega) | omega) ⟨_, _, _, _, _, _, _, _, _, _, _, _, _, _, _, _, _, _, _, _, _, _, _, _, _, hP.sub [0, 1, 2, 3, 4, 5, 6, 7, 8, 9, 10, 11, 12] rfl, hD.sub [0, 1, 2, 3, 4, 5, 6, 7, 8, 9, 10, 11, 12] rfl rfl, ht1, ht2, h40, hm, hy, hR, hlt⟩ hS (lv_sub hl [0, 1, 2, 3] rfl)
theorem j_L_44 : Cond.methodLink R_L 44 y_P_asSubclass ∈ tk := tk_of (List.mem_of_getElem? (i := 522) (by decide +kernel)) rfl
theorem se_P_P_asSubclass : Cond.selects R_P y_P_asSubclass y_P_asSubclass ∈ tk := tk_of (List.mem_of_getElem? (i := 524) (by decide +kernel)) rfl
theorem j_L_47 : Cond.methodLink R_L 47 y_M_asSubclass ∈ tk := tk_of (List.mem_of_getElem? (i := 844) (by decide +kernel)) rfl
theorem se_M_M_asSubclass : Cond.selects R_M y_M_asSubclass y_M_asSubclass ∈ tk := tk_of (List.mem_of_getElem? (i := 846) (by decide +kernel)) rfl
set_option maxHeartbeats 4000000 in
set_option maxRecDepth 100000 in
theorem lc_7 {p : Program} {l : Launch} {e : Env} {s : State} {m : MethodId} {below : List Frame} {meth : Method} {c : Code} {g : gT} {A : Nat → Prop} {Q : State → Prop} {b L : Nat} {xs : Nat → Int32} (hL : L ≤ 2048) (hx : p.tables.exec = Jvm.exec) (hb : c.code = b_L_law) (hF : CallFix p m c b_L_law 4 s #[Value.ref b] tk R_L) (hA : ∀ q, s.heap.size ≤ q → A q) (G : Gx g A s s.heap) (hX : va_X b L xs s s.heap) (hbl : b < s.heap.size) (hbA : ¬ A b) (p0 h0 i N cells slots : Nat) (hi : i + 4 ≤ L) (hN : N ≤ 100000) (hc : cells + 70 ≤ 600000) (hs : slots + 2300 ≤ 7302250)
    (hend : ∀ (N' : Nat) (H : Heap) (locs : List Loc) (ls : Array Slot) (cells' slots' : Nat), N' ≤ N + 1 → cells' ≤ cells + 70 → slots' ≤ slots + 2300 → lI g A p0 h0 N' H → va_S A s.heap H locs → lv_has ls 4 [(3, .int (nI i)), (0, .ref b), (1, .ref p0), (2, .ref h0)] → W p l e ({ frames := 17, cells := 600000, slots := 7302250, locals := 670 }) s m #[Value.ref b] below meth c H locs cells' slots' Q (F0 m 694 ls []))
    (H : Heap) (locs : List Loc) (ls : Array Slot) (hI : lI g A p0 h0 N H) (hS : va_S A s.heap H locs) (hl : lv_has ls 4 [(3, .int (nI i)), (0, .ref b), (1, .ref p0), (2, .ref h0)]) : W p l e ({ frames := 17, cells := 600000, slots := 7302250, locals := 670 }) s m #[Value.ref b] below meth c H locs cells slots Q (F0 m 361 ls []) := by
  have hK := G.2.1
  have hN0 := G.1
  obtain ⟨ha, s0, b1, v1, q0, b2, v2, a1, a2, a3, a4, hp, cp1, ml1, f1, xs1, cp2, ml2, f2, xs2, ys, md, td, hd, gd, hP, hD, ht1, ht2, h40, hm, hy, hR, hlt⟩ := hI
  refine lv_aload_n hx hb d_L_law_361 rfl (lv_at hl 2 rfl) ?_
  refine lv_aload_n hx hb d_L_law_362 rfl (lv_at hl 1 rfl) ?_
  refine lv_iload_n hx hb d_L_law_363 rfl (lv_at hl 0 rfl) ?_
  refine lv_iconst (v := 1) hx hb d_L_law_364 (by decide) ?_
  refine lv_iadd hx hb d_L_law_365 ?_
  refine tp_i (show nI i + 1 = nI (i + 1) from l_k1 i) ?_
  refine va_sld hx hb hX hbl hbA hS (vp_in_nI (n := i + 1) (N := L) (by omega) (by omega)) d_L_law_366 ?_
  refine lv_aload_n hx hb d_L_law_367 rfl (lv_at hl 1 rfl) ?_
  refine lv_iload_n hx hb d_L_law_368 rfl (lv_at hl 0 rfl) ?_
  refine lv_iconst (v := 2) hx hb d_L_law_369 (by decide) ?_
  refine lv_iadd hx hb d_L_law_370 ?_
  refine tp_i (show nI i + 2 = nI (i + 2) from l_k2 i) ?_
  refine va_sld hx hb hX hbl hbA hS (vp_in_nI (n := i + 2) (N := L) (by omega) (by omega)) d_L_law_371 ?_
  refine pm_callVE hF hN0 (c_P_asSubclass l p0 (xs (nI (i + 1)).toNatClampNeg) (xs (nI (i + 2)).toNatClampNeg)) k_P_asSubclass j_L_44 se_P_P_asSubclass (va_recv hK hP (ci := 0) (q0 := 0) rfl rfl) ⟨Nat.le_of_ble_eq_true rfl, Nat.le_of_ble_eq_true rfl⟩ rfl hl.1 (Nat.le_of_ble_eq_true rfl) d_L_law_372 ⟨(by first | exact Nat.le_of_ble_eq_true rfl | (dsimp only; omega) | omega), (by first | exact Nat.le_of_ble_eq_true rfl | (dsimp only; omega) | omega)⟩ ?_
  refine lv_aload_n hx hb d_L_law_375 rfl (lv_at hl 3 rfl) ?_
  refine lv_aload_n hx hb d_L_law_376 rfl (lv_at hl 1 rfl) ?_
  refine lv_iload_n hx hb d_L_law_377 rfl (lv_at hl 0 rfl) ?_
  refine lv_iconst (v := 1) hx hb d_L_law_378 (by decide) ?_
  refine lv_iadd hx hb d_L_law_379 ?_
  refine tp_i (show nI i + 1 = nI (i + 1) from l_k1 i) ?_
  refine va_sld hx hb hX hbl hbA hS (vp_in_nI (n := i + 1) (N := L) (by omega) (by omega)) d_L_law_380 ?_
  refine lv_aload_n hx hb d_L_law_381 rfl (lv_at hl 1 rfl) ?_
  refine lv_iload_n hx hb d_L_law_382 rfl (lv_at hl 0 rfl) ?_
  refine lv_iconst (v := 2) hx hb d_L_law_383 (by decide) ?_
  refine lv_iadd hx hb d_L_law_384 ?_
  refine tp_i (show nI i + 2 = nI (i + 2) from l_k2 i) ?_
  refine va_sld hx hb hX hbl hbA hS (vp_in_nI (n := i + 2) (N := L) (by omega) (by omega)) d_L_law_385 ?_
  refine pm_callVE hF hN0 (c_M_asSubclass l h0 (xs (nI (i + 1)).toNatClampNeg) (xs (nI (i + 2)).toNatClampNeg)) k_M_asSubclass j_L_47 se_M_M_asSubclass (va_recv hK hP (ci := 4) (q0 := 8) rfl rfl) ⟨Nat.le_of_ble_eq_true rfl, Nat.le_of_ble_eq_true rfl⟩ rfl hl.1 (Nat.le_of_ble_eq_true rfl) d_L_law_386 ⟨(by first | exact Nat.le_of_ble_eq_true rfl | (dsimp only; omega) | omega), (by first | exact Nat.le_of_ble_eq_true rfl | (dsimp only; omega) | omega)⟩ ?_
  refine lv_icmp_eq (tgt := 694) hx hb d_L_law_389 (by decide) (fun c_1 => ?_) (fun c_1 => absurd (e_P_asSubclass _ _) c_1)
  exact hend N _ _ _ _ _ (Nat.le_succ _) (by first | exact Nat.le_of_ble_eq_true rfl | (dsimp only; omega) | omega) (by first | exact Nat.le_of_ble_eq_true rfl | (dsimp only; omega) | omega) ⟨_, _, _, _, _, _, _, _, _, _, _, _, _, _, _, _, _, _, _, _, _, _, _, _, _, hP.sub [0, 1, 2, 3, 4, 5, 6, 7, 8, 9, 10, 11, 12] rfl, hD.sub [0, 1, 2, 3, 4, 5, 6, 7, 8, 9, 10, 11, 12] rfl rfl, ht1, ht2, h40, hm, hy, hR, hlt⟩ hS (lv_sub hl [0, 1, 2, 3] rfl)
theorem j_L_48 : Cond.methodLink R_L 48 y_P_nestmates ∈ tk := tk_of (List.mem_of_getElem? (i := 526) (by decide +kernel)) rfl
theorem se_P_P_nestmates : Cond.selects R_P y_P_nestmates y_P_nestmates ∈ tk := tk_of (List.mem_of_getElem? (i := 528) (by decide +kernel)) rfl
theorem j_L_51 : Cond.methodLink R_L 51 y_M_nestmates ∈ tk := tk_of (List.mem_of_getElem? (i := 848) (by decide +kernel)) rfl
theorem se_M_M_nestmates : Cond.selects R_M y_M_nestmates y_M_nestmates ∈ tk := tk_of (List.mem_of_getElem? (i := 850) (by decide +kernel)) rfl
set_option maxHeartbeats 4000000 in
set_option maxRecDepth 100000 in
theorem lc_8 {p : Program} {l : Launch} {e : Env} {s : State} {m : MethodId} {below : List Frame} {meth : Method} {c : Code} {g : gT} {A : Nat → Prop} {Q : State → Prop} {b L : Nat} {xs : Nat → Int32} (hL : L ≤ 2048) (hx : p.tables.exec = Jvm.exec) (hb : c.code = b_L_law) (hF : CallFix p m c b_L_law 4 s #[Value.ref b] tk R_L) (hA : ∀ q, s.heap.size ≤ q → A q) (G : Gx g A s s.heap) (hX : va_X b L xs s s.heap) (hbl : b < s.heap.size) (hbA : ¬ A b) (p0 h0 i N cells slots : Nat) (hi : i + 4 ≤ L) (hN : N ≤ 100000) (hc : cells + 70 ≤ 600000) (hs : slots + 2300 ≤ 7302250)
    (hend : ∀ (N' : Nat) (H : Heap) (locs : List Loc) (ls : Array Slot) (cells' slots' : Nat), N' ≤ N + 1 → cells' ≤ cells + 70 → slots' ≤ slots + 2300 → lI g A p0 h0 N' H → va_S A s.heap H locs → lv_has ls 4 [(3, .int (nI i)), (0, .ref b), (1, .ref p0), (2, .ref h0)] → W p l e ({ frames := 17, cells := 600000, slots := 7302250, locals := 670 }) s m #[Value.ref b] below meth c H locs cells' slots' Q (F0 m 694 ls []))
    (H : Heap) (locs : List Loc) (ls : Array Slot) (hI : lI g A p0 h0 N H) (hS : va_S A s.heap H locs) (hl : lv_has ls 4 [(3, .int (nI i)), (0, .ref b), (1, .ref p0), (2, .ref h0)]) : W p l e ({ frames := 17, cells := 600000, slots := 7302250, locals := 670 }) s m #[Value.ref b] below meth c H locs cells slots Q (F0 m 394 ls []) := by
  have hK := G.2.1
  have hN0 := G.1
  obtain ⟨ha, s0, b1, v1, q0, b2, v2, a1, a2, a3, a4, hp, cp1, ml1, f1, xs1, cp2, ml2, f2, xs2, ys, md, td, hd, gd, hP, hD, ht1, ht2, h40, hm, hy, hR, hlt⟩ := hI
  refine lv_aload_n hx hb d_L_law_394 rfl (lv_at hl 2 rfl) ?_
  refine lv_aload_n hx hb d_L_law_395 rfl (lv_at hl 1 rfl) ?_
  refine lv_iload_n hx hb d_L_law_396 rfl (lv_at hl 0 rfl) ?_
  refine lv_iconst (v := 1) hx hb d_L_law_397 (by decide) ?_
  refine lv_iadd hx hb d_L_law_398 ?_
  refine tp_i (show nI i + 1 = nI (i + 1) from l_k1 i) ?_
  refine va_sld hx hb hX hbl hbA hS (vp_in_nI (n := i + 1) (N := L) (by omega) (by omega)) d_L_law_399 ?_
  refine lv_aload_n hx hb d_L_law_400 rfl (lv_at hl 1 rfl) ?_
  refine lv_iload_n hx hb d_L_law_401 rfl (lv_at hl 0 rfl) ?_
  refine lv_iconst (v := 2) hx hb d_L_law_402 (by decide) ?_
  refine lv_iadd hx hb d_L_law_403 ?_
  refine tp_i (show nI i + 2 = nI (i + 2) from l_k2 i) ?_
  refine va_sld hx hb hX hbl hbA hS (vp_in_nI (n := i + 2) (N := L) (by omega) (by omega)) d_L_law_404 ?_
  refine pm_callVE hF hN0 (c_P_nestmates l p0 (xs (nI (i + 1)).toNatClampNeg) (xs (nI (i + 2)).toNatClampNeg)) k_P_nestmates j_L_48 se_P_P_nestmates (va_recv hK hP (ci := 0) (q0 := 0) rfl rfl) ⟨Nat.le_of_ble_eq_true rfl, Nat.le_of_ble_eq_true rfl⟩ rfl hl.1 (Nat.le_of_ble_eq_true rfl) d_L_law_405 ⟨(by first | exact Nat.le_of_ble_eq_true rfl | (dsimp only; omega) | omega), (by first | exact Nat.le_of_ble_eq_true rfl | (dsimp only; omega) | omega)⟩ ?_
  refine lv_aload_n hx hb d_L_law_408 rfl (lv_at hl 3 rfl) ?_
  refine lv_aload_n hx hb d_L_law_409 rfl (lv_at hl 1 rfl) ?_
  refine lv_iload_n hx hb d_L_law_410 rfl (lv_at hl 0 rfl) ?_
  refine lv_iconst (v := 1) hx hb d_L_law_411 (by decide) ?_
  refine lv_iadd hx hb d_L_law_412 ?_
  refine tp_i (show nI i + 1 = nI (i + 1) from l_k1 i) ?_
  refine va_sld hx hb hX hbl hbA hS (vp_in_nI (n := i + 1) (N := L) (by omega) (by omega)) d_L_law_413 ?_
  refine lv_aload_n hx hb d_L_law_414 rfl (lv_at hl 1 rfl) ?_
  refine lv_iload_n hx hb d_L_law_415 rfl (lv_at hl 0 rfl) ?_
  refine lv_iconst (v := 2) hx hb d_L_law_416 (by decide) ?_
  refine lv_iadd hx hb d_L_law_417 ?_
  refine tp_i (show nI i + 2 = nI (i + 2) from l_k2 i) ?_
  refine va_sld hx hb hX hbl hbA hS (vp_in_nI (n := i + 2) (N := L) (by omega) (by omega)) d_L_law_418 ?_
  refine pm_callVE hF hN0 (c_M_nestmates l h0 (xs (nI (i + 1)).toNatClampNeg) (xs (nI (i + 2)).toNatClampNeg)) k_M_nestmates j_L_51 se_M_M_nestmates (va_recv hK hP (ci := 4) (q0 := 8) rfl rfl) ⟨Nat.le_of_ble_eq_true rfl, Nat.le_of_ble_eq_true rfl⟩ rfl hl.1 (Nat.le_of_ble_eq_true rfl) d_L_law_419 ⟨(by first | exact Nat.le_of_ble_eq_true rfl | (dsimp only; omega) | omega), (by first | exact Nat.le_of_ble_eq_true rfl | (dsimp only; omega) | omega)⟩ ?_
  refine lv_icmp_eq (tgt := 694) hx hb d_L_law_422 (by decide) (fun c_1 => ?_) (fun c_1 => absurd (e_P_nestmates _ _) c_1)
  exact hend N _ _ _ _ _ (Nat.le_succ _) (by first | exact Nat.le_of_ble_eq_true rfl | (dsimp only; omega) | omega) (by first | exact Nat.le_of_ble_eq_true rfl | (dsimp only; omega) | omega) ⟨_, _, _, _, _, _, _, _, _, _, _, _, _, _, _, _, _, _, _, _, _, _, _, _, _, hP.sub [0, 1, 2, 3, 4, 5, 6, 7, 8, 9, 10, 11, 12] rfl, hD.sub [0, 1, 2, 3, 4, 5, 6, 7, 8, 9, 10, 11, 12] rfl rfl, ht1, ht2, h40, hm, hy, hR, hlt⟩ hS (lv_sub hl [0, 1, 2, 3] rfl)
theorem j_L_52 : Cond.methodLink R_L 52 y_P_type ∈ tk := tk_of (List.mem_of_getElem? (i := 530) (by decide +kernel)) rfl
theorem se_P_P_type : Cond.selects R_P y_P_type y_P_type ∈ tk := tk_of (List.mem_of_getElem? (i := 532) (by decide +kernel)) rfl
theorem j_L_56 : Cond.methodLink R_L 56 y_M_type ∈ tk := tk_of (List.mem_of_getElem? (i := 852) (by decide +kernel)) rfl
set_option maxHeartbeats 4000000 in
set_option maxRecDepth 100000 in
theorem lc_9 {p : Program} {l : Launch} {e : Env} {s : State} {m : MethodId} {below : List Frame} {meth : Method} {c : Code} {g : gT} {A : Nat → Prop} {Q : State → Prop} {b L : Nat} {xs : Nat → Int32} (hL : L ≤ 2048) (hx : p.tables.exec = Jvm.exec) (hb : c.code = b_L_law) (hF : CallFix p m c b_L_law 4 s #[Value.ref b] tk R_L) (hA : ∀ q, s.heap.size ≤ q → A q) (G : Gx g A s s.heap) (hX : va_X b L xs s s.heap) (hbl : b < s.heap.size) (hbA : ¬ A b) (p0 h0 i N cells slots : Nat) (hi : i + 4 ≤ L) (hN : N ≤ 100000) (hc : cells + 70 ≤ 600000) (hs : slots + 2300 ≤ 7302250)
    (hend : ∀ (N' : Nat) (H : Heap) (locs : List Loc) (ls : Array Slot) (cells' slots' : Nat), N' ≤ N + 1 → cells' ≤ cells + 70 → slots' ≤ slots + 2300 → lI g A p0 h0 N' H → va_S A s.heap H locs → lv_has ls 4 [(3, .int (nI i)), (0, .ref b), (1, .ref p0), (2, .ref h0)] → W p l e ({ frames := 17, cells := 600000, slots := 7302250, locals := 670 }) s m #[Value.ref b] below meth c H locs cells' slots' Q (F0 m 694 ls []))
    (H : Heap) (locs : List Loc) (ls : Array Slot) (hI : lI g A p0 h0 N H) (hS : va_S A s.heap H locs) (hl : lv_has ls 4 [(3, .int (nI i)), (0, .ref b), (1, .ref p0), (2, .ref h0)]) : W p l e ({ frames := 17, cells := 600000, slots := 7302250, locals := 670 }) s m #[Value.ref b] below meth c H locs cells slots Q (F0 m 427 ls []) := by
  have hK := G.2.1
  have hN0 := G.1
  obtain ⟨ha, s0, b1, v1, q0, b2, v2, a1, a2, a3, a4, hp, cp1, ml1, f1, xs1, cp2, ml2, f2, xs2, ys, md, td, hd, gd, hP, hD, ht1, ht2, h40, hm, hy, hR, hlt⟩ := hI
  refine lv_aload_n hx hb d_L_law_427 rfl (lv_at hl 2 rfl) ?_
  refine lv_aload_n hx hb d_L_law_428 rfl (lv_at hl 1 rfl) ?_
  refine lv_iload_n hx hb d_L_law_429 rfl (lv_at hl 0 rfl) ?_
  refine lv_iconst (v := 1) hx hb d_L_law_430 (by decide) ?_
  refine lv_iadd hx hb d_L_law_431 ?_
  refine tp_i (show nI i + 1 = nI (i + 1) from l_k1 i) ?_
  refine va_sld hx hb hX hbl hbA hS (vp_in_nI (n := i + 1) (N := L) (by omega) (by omega)) d_L_law_432 ?_
  refine go_i (wr := [(ha, .inl (gI g, 8, .inl hp)), (s0, .inr (1, [.ref b1])), (b1, .inr (3, [.ref v1, .int 0, .int ml1, .int (nI xs1.length)])), (v1, .inl (gB g, cp1, .inl f1)), (h0, .inr (4, [.ref a1, .int (nI ys.length), .ref a2, .int (nI (xs2.map nI).length), .ref a3, .ref a4, .int (nI (100 + N))])), (a1, .inl (gI g, 200, .inl md)), (a2, .inl (gI g, 40, .inl td)), (a3, .inl (gI g, 8, .inl hd)), (a4, .inl (gI g, 8, .inl gd))]) (run_V hF (c_P_type g l _ p0 ha s0 q0 b2 v2 cp2 ml2 f2 xs2 ht2 (xs (nI (i + 1)).toNatClampNeg) h40) k_P_type j_L_52 se_P_P_type (va_recv hK hP (ci := 0) (q0 := 0) rfl rfl) (cw_down G hP hD hS hA [0, 5, 6, 7] rfl rfl) ⟨Nat.le_of_ble_eq_true rfl, Nat.le_of_ble_eq_true rfl⟩ rfl hl.1 (Nat.le_of_ble_eq_true rfl) d_L_law_433 ⟨(by first | exact Nat.le_of_ble_eq_true rfl | (dsimp only; omega) | omega), (by first | exact Nat.le_of_ble_eq_true rfl | (dsimp only; omega) | omega)⟩) hP hD hS hA [0, 5, 6, 7] [1, 2, 3, 4, 8, 9, 10, 11, 12] rfl rfl rfl (by decide) (fun r_1 w1 H locs hp1 hP hD hS => ?_)
  obtain ⟨v_2, cp_2, ml_2, f_2, rfl, ht_2, h40_2, rfl⟩ := hp1
  have hP : va_P (gD g) classes [(ha, .inl (gI g, 8, .inl hp)), (s0, .inr (1, [.ref b1])), (b1, .inr (3, [.ref v1, .int 0, .int ml1, .int (nI xs1.length)])), (v1, .inl (gB g, cp1, .inl f1)), (h0, .inr (4, [.ref a1, .int (nI ys.length), .ref a2, .int (nI (xs2.map nI).length), .ref a3, .ref a4, .int (nI (100 + N))])), (a1, .inl (gI g, 200, .inl md)), (a2, .inl (gI g, 40, .inl td)), (a3, .inl (gI g, 8, .inl hd)), (a4, .inl (gI g, 8, .inl gd)), (p0, .inr (0, [.ref ha, .ref s0, .ref q0])), (q0, .inr (2, [.ref b2])), (b2, .inr (3, [.ref v_2, .int 0, .int ml_2, .int (nI (zt_Q_add xs2 (xs (nI (i + 1)).toNatClampNeg)).1.length)])), (v_2, .inl (gB g, cp_2, .inl f_2))] H := hP
  have hD : va_D A [(ha, .inl (gI g, 8, .inl hp)), (s0, .inr (1, [.ref b1])), (b1, .inr (3, [.ref v1, .int 0, .int ml1, .int (nI xs1.length)])), (v1, .inl (gB g, cp1, .inl f1)), (h0, .inr (4, [.ref a1, .int (nI ys.length), .ref a2, .int (nI (xs2.map nI).length), .ref a3, .ref a4, .int (nI (100 + N))])), (a1, .inl (gI g, 200, .inl md)), (a2, .inl (gI g, 40, .inl td)), (a3, .inl (gI g, 8, .inl hd)), (a4, .inl (gI g, 8, .inl gd)), (p0, .inr (0, [.ref ha, .ref s0, .ref q0])), (q0, .inr (2, [.ref b2])), (b2, .inr (3, [.ref v_2, .int 0, .int ml_2, .int (nI (zt_Q_add xs2 (xs (nI (i + 1)).toNatClampNeg)).1.length)])), (v_2, .inl (gB g, cp_2, .inl f_2))] := hD
  refine lv_aload_n hx hb d_L_law_436 rfl (lv_at hl 3 rfl) ?_
  refine lv_aload_n hx hb d_L_law_437 rfl (lv_at hl 1 rfl) ?_
  refine lv_iload_n hx hb d_L_law_438 rfl (lv_at hl 0 rfl) ?_
  refine lv_iconst (v := 1) hx hb d_L_law_439 (by decide) ?_
  refine lv_iadd hx hb d_L_law_440 ?_
  refine tp_i (show nI i + 1 = nI (i + 1) from l_k1 i) ?_
  refine va_sld hx hb hX hbl hbA hS (vp_in_nI (n := i + 1) (N := L) (by omega) (by omega)) d_L_law_441 ?_
  refine go_i (wr := [(ha, .inl (gI g, 8, .inl hp)), (s0, .inr (1, [.ref b1])), (b1, .inr (3, [.ref v1, .int 0, .int ml1, .int (nI xs1.length)])), (v1, .inl (gB g, cp1, .inl f1)), (a1, .inl (gI g, 200, .inl md)), (a3, .inl (gI g, 8, .inl hd)), (a4, .inl (gI g, 8, .inl gd)), (p0, .inr (0, [.ref ha, .ref s0, .ref q0])), (q0, .inr (2, [.ref b2])), (b2, .inr (3, [.ref v_2, .int 0, .int ml_2, .int (nI (zt_Q_add xs2 (xs (nI (i + 1)).toNatClampNeg)).1.length)])), (v_2, .inl (gB g, cp_2, .inl f_2))]) (run_V hF (c_M_type g l _ h0 a1 a2 a3 a4 (nI ys.length) (nI (100 + N)) (xs2.map nI) td hy (xs (nI (i + 1)).toNatClampNeg)) k_M_type j_L_56 se_M_M_type (va_recv hK hP (ci := 4) (q0 := 4) rfl rfl) (cw_down G hP hD hS hA [4, 6] rfl rfl) ⟨Nat.le_of_ble_eq_true rfl, Nat.le_of_ble_eq_true rfl⟩ rfl hl.1 (Nat.le_of_ble_eq_true rfl) d_L_law_442 ⟨(by first | exact Nat.le_of_ble_eq_true rfl | (dsimp only; omega) | omega), (by first | exact Nat.le_of_ble_eq_true rfl | (dsimp only; omega) | omega)⟩) hP hD hS hA [4, 6] [0, 1, 2, 3, 5, 7, 8, 9, 10, 11, 12] rfl rfl rfl (by decide) (fun r_3 w1 H locs hp1 hP hD hS => ?_)
  rw [e_type xs2 (xs (nI (i + 1)).toNatClampNeg) h40] at hp1
  obtain ⟨td_4, rfl, hy_4, rfl⟩ := hp1
  have hP : va_P (gD g) classes [(ha, .inl (gI g, 8, .inl hp)), (s0, .inr (1, [.ref b1])), (b1, .inr (3, [.ref v1, .int 0, .int ml1, .int (nI xs1.length)])), (v1, .inl (gB g, cp1, .inl f1)), (a1, .inl (gI g, 200, .inl md)), (a3, .inl (gI g, 8, .inl hd)), (a4, .inl (gI g, 8, .inl gd)), (p0, .inr (0, [.ref ha, .ref s0, .ref q0])), (q0, .inr (2, [.ref b2])), (b2, .inr (3, [.ref v_2, .int 0, .int ml_2, .int (nI (zt_Q_add xs2 (xs (nI (i + 1)).toNatClampNeg)).1.length)])), (v_2, .inl (gB g, cp_2, .inl f_2)), (h0, .inr (4, [.ref a1, .int (nI ys.length), .ref a2, .int (nI ((zt_Q_add xs2 (xs (nI (i + 1)).toNatClampNeg)).1.map nI).length), .ref a3, .ref a4, .int (nI (100 + N))])), (a2, .inl (gI g, 40, .inl td_4))] H := hP
  have hD : va_D A [(ha, .inl (gI g, 8, .inl hp)), (s0, .inr (1, [.ref b1])), (b1, .inr (3, [.ref v1, .int 0, .int ml1, .int (nI xs1.length)])), (v1, .inl (gB g, cp1, .inl f1)), (a1, .inl (gI g, 200, .inl md)), (a3, .inl (gI g, 8, .inl hd)), (a4, .inl (gI g, 8, .inl gd)), (p0, .inr (0, [.ref ha, .ref s0, .ref q0])), (q0, .inr (2, [.ref b2])), (b2, .inr (3, [.ref v_2, .int 0, .int ml_2, .int (nI (zt_Q_add xs2 (xs (nI (i + 1)).toNatClampNeg)).1.length)])), (v_2, .inl (gB g, cp_2, .inl f_2)), (h0, .inr (4, [.ref a1, .int (nI ys.length), .ref a2, .int (nI ((zt_Q_add xs2 (xs (nI (i + 1)).toNatClampNeg)).1.map nI).length), .ref a3, .ref a4, .int (nI (100 + N))])), (a2, .inl (gI g, 40, .inl td_4))] := hD
  refine lv_icmp_eq (tgt := 694) hx hb d_L_law_445 (by decide) (fun c_5 => ?_) (fun c_5 => absurd rfl c_5)
  exact hend N _ _ _ _ _ (Nat.le_succ _) (by first | exact Nat.le_of_ble_eq_true rfl | (dsimp only; omega) | omega) (by first | exact Nat.le_of_ble_eq_true rfl | (dsimp only; omega) | omega) ⟨_, _, _, _, _, _, _, _, _, _, _, _, _, _, _, _, _, _, _, _, _, _, _, _, _, hP.sub [7, 0, 1, 2, 3, 8, 9, 10, 11, 4, 12, 5, 6] rfl, hD.sub [7, 0, 1, 2, 3, 8, 9, 10, 11, 4, 12, 5, 6] rfl rfl, ht1, ht_2, h40_2, hm, hy_4, hR, hlt⟩ hS (lv_sub hl [0, 1, 2, 3] rfl)
theorem cl_L_57 : Cond.constantLong R_L 57 4294967295 ∈ tk := tk_of (List.mem_of_getElem? (i := 905) (by decide +kernel)) rfl
theorem j_L_59 : Cond.methodLink R_L 59 y_P_types ∈ tk := tk_of (List.mem_of_getElem? (i := 540) (by decide +kernel)) rfl
theorem se_P_P_types : Cond.selects R_P y_P_types y_P_types ∈ tk := tk_of (List.mem_of_getElem? (i := 542) (by decide +kernel)) rfl
theorem j_L_63 : Cond.methodLink R_L 63 y_M_types ∈ tk := tk_of (List.mem_of_getElem? (i := 856) (by decide +kernel)) rfl
theorem se_M_M_types : Cond.selects R_M y_M_types y_M_types ∈ tk := tk_of (List.mem_of_getElem? (i := 858) (by decide +kernel)) rfl
set_option maxHeartbeats 4000000 in
set_option maxRecDepth 100000 in
theorem lc_10 {p : Program} {l : Launch} {e : Env} {s : State} {m : MethodId} {below : List Frame} {meth : Method} {c : Code} {g : gT} {A : Nat → Prop} {Q : State → Prop} {b L : Nat} {xs : Nat → Int32} (hL : L ≤ 2048) (hx : p.tables.exec = Jvm.exec) (hb : c.code = b_L_law) (hF : CallFix p m c b_L_law 4 s #[Value.ref b] tk R_L) (hA : ∀ q, s.heap.size ≤ q → A q) (G : Gx g A s s.heap) (hX : va_X b L xs s s.heap) (hbl : b < s.heap.size) (hbA : ¬ A b) (p0 h0 i N cells slots : Nat) (hi : i + 4 ≤ L) (hN : N ≤ 100000) (hc : cells + 70 ≤ 600000) (hs : slots + 2300 ≤ 7302250)
    (hend : ∀ (N' : Nat) (H : Heap) (locs : List Loc) (ls : Array Slot) (cells' slots' : Nat), N' ≤ N + 1 → cells' ≤ cells + 70 → slots' ≤ slots + 2300 → lI g A p0 h0 N' H → va_S A s.heap H locs → lv_has ls 4 [(3, .int (nI i)), (0, .ref b), (1, .ref p0), (2, .ref h0)] → W p l e ({ frames := 17, cells := 600000, slots := 7302250, locals := 670 }) s m #[Value.ref b] below meth c H locs cells' slots' Q (F0 m 694 ls []))
    (H : Heap) (locs : List Loc) (ls : Array Slot) (hI : lI g A p0 h0 N H) (hS : va_S A s.heap H locs) (hl : lv_has ls 4 [(3, .int (nI i)), (0, .ref b), (1, .ref p0), (2, .ref h0)]) : W p l e ({ frames := 17, cells := 600000, slots := 7302250, locals := 670 }) s m #[Value.ref b] below meth c H locs cells slots Q (F0 m 450 ls []) := by
  have hK := G.2.1
  have hN0 := G.1
  obtain ⟨ha, s0, b1, v1, q0, b2, v2, a1, a2, a3, a4, hp, cp1, ml1, f1, xs1, cp2, ml2, f2, xs2, ys, md, td, hd, gd, hP, hD, ht1, ht2, h40, hm, hy, hR, hlt⟩ := hI
  refine lv_aload_n hx hb d_L_law_450 rfl (lv_at hl 2 rfl) ?_
  refine lv_aload_n hx hb d_L_law_451 rfl (lv_at hl 1 rfl) ?_
  refine lv_iload_n hx hb d_L_law_452 rfl (lv_at hl 0 rfl) ?_
  refine lv_iconst (v := 1) hx hb d_L_law_453 (by decide) ?_
  refine lv_iadd hx hb d_L_law_454 ?_
  refine tp_i (show nI i + 1 = nI (i + 1) from l_k1 i) ?_
  refine va_sld hx hb hX hbl hbA hS (vp_in_nI (n := i + 1) (N := L) (by omega) (by omega)) d_L_law_455 ?_
  refine lv_i2l hx hb d_L_law_456 (v := ((xs (nI (i + 1)).toNatClampNeg)).toInt64) rfl ?_
  refine lv_bipush (v := 32) hx hb d_L_law_457 (by decide) ?_
  refine lv_lshl hx hb d_L_law_459 (v := (((xs (nI (i + 1)).toNatClampNeg)).toInt64 <<< ((32 : Int32).toInt64 &&& 63))) rfl ?_
  refine lv_aload_n hx hb d_L_law_460 rfl (lv_at hl 1 rfl) ?_
  refine lv_iload_n hx hb d_L_law_461 rfl (lv_at hl 0 rfl) ?_
  refine lv_iconst (v := 2) hx hb d_L_law_462 (by decide) ?_
  refine lv_iadd hx hb d_L_law_463 ?_
  refine tp_i (show nI i + 2 = nI (i + 2) from l_k2 i) ?_
  refine va_sld hx hb hX hbl hbA hS (vp_in_nI (n := i + 2) (N := L) (by omega) (by omega)) d_L_law_464 ?_
  refine lv_i2l hx hb d_L_law_465 (v := ((xs (nI (i + 2)).toNatClampNeg)).toInt64) rfl ?_
  refine lv_ldc2 (v := 4294967295) hx hb hF.2.2.2.1 (hF.2.2.2.2 _ cl_L_57) d_L_law_466 ?_
  refine lv_land hx hb d_L_law_469 ?_
  refine lv_lor hx hb d_L_law_470 ?_
  refine go_i (wr := [(ha, .inl (gI g, 8, .inl hp)), (s0, .inr (1, [.ref b1])), (b1, .inr (3, [.ref v1, .int 0, .int ml1, .int (nI xs1.length)])), (v1, .inl (gB g, cp1, .inl f1)), (h0, .inr (4, [.ref a1, .int (nI ys.length), .ref a2, .int (nI (xs2.map nI).length), .ref a3, .ref a4, .int (nI (100 + N))])), (a1, .inl (gI g, 200, .inl md)), (a2, .inl (gI g, 40, .inl td)), (a3, .inl (gI g, 8, .inl hd)), (a4, .inl (gI g, 8, .inl gd))]) (run_V hF (c_P_types g l _ p0 ha s0 q0 b2 v2 cp2 ml2 f2 xs2 ht2 ((((xs (nI (i + 1)).toNatClampNeg)).toInt64 <<< ((32 : Int32).toInt64 &&& 63)) ||| (((xs (nI (i + 2)).toNatClampNeg)).toInt64 &&& 4294967295)) h40) k_P_types j_L_59 se_P_P_types (va_recv hK hP (ci := 0) (q0 := 0) rfl rfl) (cw_down G hP hD hS hA [0, 5, 6, 7] rfl rfl) ⟨Nat.le_of_ble_eq_true rfl, Nat.le_of_ble_eq_true rfl⟩ rfl hl.1 (Nat.le_of_ble_eq_true rfl) d_L_law_471 ⟨(by first | exact Nat.le_of_ble_eq_true rfl | (dsimp only; omega) | omega), (by first | exact Nat.le_of_ble_eq_true rfl | (dsimp only; omega) | omega)⟩) hP hD hS hA [0, 5, 6, 7] [1, 2, 3, 4, 8, 9, 10, 11, 12] rfl rfl rfl (by decide) (fun r_1 w1 H locs hp1 hP hD hS => ?_)
  obtain ⟨v_2, cp_2, ml_2, f_2, rfl, ht_2, h40_2, rfl⟩ := hp1
  have hP : va_P (gD g) classes [(ha, .inl (gI g, 8, .inl hp)), (s0, .inr (1, [.ref b1])), (b1, .inr (3, [.ref v1, .int 0, .int ml1, .int (nI xs1.length)])), (v1, .inl (gB g, cp1, .inl f1)), (h0, .inr (4, [.ref a1, .int (nI ys.length), .ref a2, .int (nI (xs2.map nI).length), .ref a3, .ref a4, .int (nI (100 + N))])), (a1, .inl (gI g, 200, .inl md)), (a2, .inl (gI g, 40, .inl td)), (a3, .inl (gI g, 8, .inl hd)), (a4, .inl (gI g, 8, .inl gd)), (p0, .inr (0, [.ref ha, .ref s0, .ref q0])), (q0, .inr (2, [.ref b2])), (b2, .inr (3, [.ref v_2, .int 0, .int ml_2, .int (nI (zt_P_types xs2 ((((xs (nI (i + 1)).toNatClampNeg)).toInt64 <<< ((32 : Int32).toInt64 &&& 63)) ||| (((xs (nI (i + 2)).toNatClampNeg)).toInt64 &&& 4294967295))).1.length)])), (v_2, .inl (gB g, cp_2, .inl f_2))] H := hP
  have hD : va_D A [(ha, .inl (gI g, 8, .inl hp)), (s0, .inr (1, [.ref b1])), (b1, .inr (3, [.ref v1, .int 0, .int ml1, .int (nI xs1.length)])), (v1, .inl (gB g, cp1, .inl f1)), (h0, .inr (4, [.ref a1, .int (nI ys.length), .ref a2, .int (nI (xs2.map nI).length), .ref a3, .ref a4, .int (nI (100 + N))])), (a1, .inl (gI g, 200, .inl md)), (a2, .inl (gI g, 40, .inl td)), (a3, .inl (gI g, 8, .inl hd)), (a4, .inl (gI g, 8, .inl gd)), (p0, .inr (0, [.ref ha, .ref s0, .ref q0])), (q0, .inr (2, [.ref b2])), (b2, .inr (3, [.ref v_2, .int 0, .int ml_2, .int (nI (zt_P_types xs2 ((((xs (nI (i + 1)).toNatClampNeg)).toInt64 <<< ((32 : Int32).toInt64 &&& 63)) ||| (((xs (nI (i + 2)).toNatClampNeg)).toInt64 &&& 4294967295))).1.length)])), (v_2, .inl (gB g, cp_2, .inl f_2))] := hD
  refine lv_aload_n hx hb d_L_law_474 rfl (lv_at hl 3 rfl) ?_
  refine lv_aload_n hx hb d_L_law_475 rfl (lv_at hl 1 rfl) ?_
  refine lv_iload_n hx hb d_L_law_476 rfl (lv_at hl 0 rfl) ?_
  refine lv_iconst (v := 1) hx hb d_L_law_477 (by decide) ?_
  refine lv_iadd hx hb d_L_law_478 ?_
  refine tp_i (show nI i + 1 = nI (i + 1) from l_k1 i) ?_
  refine va_sld hx hb hX hbl hbA hS (vp_in_nI (n := i + 1) (N := L) (by omega) (by omega)) d_L_law_479 ?_
  refine lv_i2l hx hb d_L_law_480 (v := ((xs (nI (i + 1)).toNatClampNeg)).toInt64) rfl ?_
  refine lv_bipush (v := 32) hx hb d_L_law_481 (by decide) ?_
  refine lv_lshl hx hb d_L_law_483 (v := (((xs (nI (i + 1)).toNatClampNeg)).toInt64 <<< ((32 : Int32).toInt64 &&& 63))) rfl ?_
  refine lv_aload_n hx hb d_L_law_484 rfl (lv_at hl 1 rfl) ?_
  refine lv_iload_n hx hb d_L_law_485 rfl (lv_at hl 0 rfl) ?_
  refine lv_iconst (v := 2) hx hb d_L_law_486 (by decide) ?_
  refine lv_iadd hx hb d_L_law_487 ?_
  refine tp_i (show nI i + 2 = nI (i + 2) from l_k2 i) ?_
  refine va_sld hx hb hX hbl hbA hS (vp_in_nI (n := i + 2) (N := L) (by omega) (by omega)) d_L_law_488 ?_
  refine lv_i2l hx hb d_L_law_489 (v := ((xs (nI (i + 2)).toNatClampNeg)).toInt64) rfl ?_
  refine lv_ldc2 (v := 4294967295) hx hb hF.2.2.2.1 (hF.2.2.2.2 _ cl_L_57) d_L_law_490 ?_
  refine lv_land hx hb d_L_law_493 ?_
  refine lv_lor hx hb d_L_law_494 ?_
  refine go_i (wr := [(ha, .inl (gI g, 8, .inl hp)), (s0, .inr (1, [.ref b1])), (b1, .inr (3, [.ref v1, .int 0, .int ml1, .int (nI xs1.length)])), (v1, .inl (gB g, cp1, .inl f1)), (a1, .inl (gI g, 200, .inl md)), (a3, .inl (gI g, 8, .inl hd)), (a4, .inl (gI g, 8, .inl gd)), (p0, .inr (0, [.ref ha, .ref s0, .ref q0])), (q0, .inr (2, [.ref b2])), (b2, .inr (3, [.ref v_2, .int 0, .int ml_2, .int (nI (zt_P_types xs2 ((((xs (nI (i + 1)).toNatClampNeg)).toInt64 <<< ((32 : Int32).toInt64 &&& 63)) ||| (((xs (nI (i + 2)).toNatClampNeg)).toInt64 &&& 4294967295))).1.length)])), (v_2, .inl (gB g, cp_2, .inl f_2))]) (run_V hF (c_M_types g l _ h0 a1 a2 a3 a4 (nI ys.length) (nI (100 + N)) (xs2.map nI) td hy ((((xs (nI (i + 1)).toNatClampNeg)).toInt64 <<< ((32 : Int32).toInt64 &&& 63)) ||| (((xs (nI (i + 2)).toNatClampNeg)).toInt64 &&& 4294967295))) k_M_types j_L_63 se_M_M_types (va_recv hK hP (ci := 4) (q0 := 4) rfl rfl) (cw_down G hP hD hS hA [4, 6] rfl rfl) ⟨Nat.le_of_ble_eq_true rfl, Nat.le_of_ble_eq_true rfl⟩ rfl hl.1 (Nat.le_of_ble_eq_true rfl) d_L_law_495 ⟨(by first | exact Nat.le_of_ble_eq_true rfl | (dsimp only; omega) | omega), (by first | exact Nat.le_of_ble_eq_true rfl | (dsimp only; omega) | omega)⟩) hP hD hS hA [4, 6] [0, 1, 2, 3, 5, 7, 8, 9, 10, 11, 12] rfl rfl rfl (by decide) (fun r_3 w1 H locs hp1 hP hD hS => ?_)
  rw [e_types xs2 ((((xs (nI (i + 1)).toNatClampNeg)).toInt64 <<< ((32 : Int32).toInt64 &&& 63)) ||| (((xs (nI (i + 2)).toNatClampNeg)).toInt64 &&& 4294967295)) h40] at hp1
  obtain ⟨td_4, rfl, hy_4, rfl⟩ := hp1
  have hP : va_P (gD g) classes [(ha, .inl (gI g, 8, .inl hp)), (s0, .inr (1, [.ref b1])), (b1, .inr (3, [.ref v1, .int 0, .int ml1, .int (nI xs1.length)])), (v1, .inl (gB g, cp1, .inl f1)), (a1, .inl (gI g, 200, .inl md)), (a3, .inl (gI g, 8, .inl hd)), (a4, .inl (gI g, 8, .inl gd)), (p0, .inr (0, [.ref ha, .ref s0, .ref q0])), (q0, .inr (2, [.ref b2])), (b2, .inr (3, [.ref v_2, .int 0, .int ml_2, .int (nI (zt_P_types xs2 ((((xs (nI (i + 1)).toNatClampNeg)).toInt64 <<< ((32 : Int32).toInt64 &&& 63)) ||| (((xs (nI (i + 2)).toNatClampNeg)).toInt64 &&& 4294967295))).1.length)])), (v_2, .inl (gB g, cp_2, .inl f_2)), (h0, .inr (4, [.ref a1, .int (nI ys.length), .ref a2, .int (nI ((zt_P_types xs2 ((((xs (nI (i + 1)).toNatClampNeg)).toInt64 <<< ((32 : Int32).toInt64 &&& 63)) ||| (((xs (nI (i + 2)).toNatClampNeg)).toInt64 &&& 4294967295))).1.map nI).length), .ref a3, .ref a4, .int (nI (100 + N))])), (a2, .inl (gI g, 40, .inl td_4))] H := hP
  have hD : va_D A [(ha, .inl (gI g, 8, .inl hp)), (s0, .inr (1, [.ref b1])), (b1, .inr (3, [.ref v1, .int 0, .int ml1, .int (nI xs1.length)])), (v1, .inl (gB g, cp1, .inl f1)), (a1, .inl (gI g, 200, .inl md)), (a3, .inl (gI g, 8, .inl hd)), (a4, .inl (gI g, 8, .inl gd)), (p0, .inr (0, [.ref ha, .ref s0, .ref q0])), (q0, .inr (2, [.ref b2])), (b2, .inr (3, [.ref v_2, .int 0, .int ml_2, .int (nI (zt_P_types xs2 ((((xs (nI (i + 1)).toNatClampNeg)).toInt64 <<< ((32 : Int32).toInt64 &&& 63)) ||| (((xs (nI (i + 2)).toNatClampNeg)).toInt64 &&& 4294967295))).1.length)])), (v_2, .inl (gB g, cp_2, .inl f_2)), (h0, .inr (4, [.ref a1, .int (nI ys.length), .ref a2, .int (nI ((zt_P_types xs2 ((((xs (nI (i + 1)).toNatClampNeg)).toInt64 <<< ((32 : Int32).toInt64 &&& 63)) ||| (((xs (nI (i + 2)).toNatClampNeg)).toInt64 &&& 4294967295))).1.map nI).length), .ref a3, .ref a4, .int (nI (100 + N))])), (a2, .inl (gI g, 40, .inl td_4))] := hD
  refine lv_icmp_eq (tgt := 694) hx hb d_L_law_498 (by decide) (fun c_5 => ?_) (fun c_5 => absurd rfl c_5)
  exact hend N _ _ _ _ _ (Nat.le_succ _) (by first | exact Nat.le_of_ble_eq_true rfl | (dsimp only; omega) | omega) (by first | exact Nat.le_of_ble_eq_true rfl | (dsimp only; omega) | omega) ⟨_, _, _, _, _, _, _, _, _, _, _, _, _, _, _, _, _, _, _, _, _, _, _, _, _, hP.sub [7, 0, 1, 2, 3, 8, 9, 10, 11, 4, 12, 5, 6] rfl, hD.sub [7, 0, 1, 2, 3, 8, 9, 10, 11, 4, 12, 5, 6] rfl rfl, ht1, ht_2, h40_2, hm, hy_4, hR, hlt⟩ hS (lv_sub hl [0, 1, 2, 3] rfl)
theorem j_L_64 : Cond.methodLink R_L 64 y_P_find ∈ tk := tk_of (List.mem_of_getElem? (i := 548) (by decide +kernel)) rfl
theorem se_P_P_find : Cond.selects R_P y_P_find y_P_find ∈ tk := tk_of (List.mem_of_getElem? (i := 550) (by decide +kernel)) rfl
theorem j_L_68 : Cond.methodLink R_L 68 y_M_find ∈ tk := tk_of (List.mem_of_getElem? (i := 861) (by decide +kernel)) rfl
theorem se_M_M_find : Cond.selects R_M y_M_find y_M_find ∈ tk := tk_of (List.mem_of_getElem? (i := 863) (by decide +kernel)) rfl
set_option maxHeartbeats 4000000 in
set_option maxRecDepth 100000 in
theorem lc_11 {p : Program} {l : Launch} {e : Env} {s : State} {m : MethodId} {below : List Frame} {meth : Method} {c : Code} {g : gT} {A : Nat → Prop} {Q : State → Prop} {b L : Nat} {xs : Nat → Int32} (hL : L ≤ 2048) (hx : p.tables.exec = Jvm.exec) (hb : c.code = b_L_law) (hF : CallFix p m c b_L_law 4 s #[Value.ref b] tk R_L) (hA : ∀ q, s.heap.size ≤ q → A q) (G : Gx g A s s.heap) (hX : va_X b L xs s s.heap) (hbl : b < s.heap.size) (hbA : ¬ A b) (p0 h0 i N cells slots : Nat) (hi : i + 4 ≤ L) (hN : N ≤ 100000) (hc : cells + 70 ≤ 600000) (hs : slots + 2300 ≤ 7302250)
    (hend : ∀ (N' : Nat) (H : Heap) (locs : List Loc) (ls : Array Slot) (cells' slots' : Nat), N' ≤ N + 1 → cells' ≤ cells + 70 → slots' ≤ slots + 2300 → lI g A p0 h0 N' H → va_S A s.heap H locs → lv_has ls 4 [(3, .int (nI i)), (0, .ref b), (1, .ref p0), (2, .ref h0)] → W p l e ({ frames := 17, cells := 600000, slots := 7302250, locals := 670 }) s m #[Value.ref b] below meth c H locs cells' slots' Q (F0 m 694 ls []))
    (H : Heap) (locs : List Loc) (ls : Array Slot) (hI : lI g A p0 h0 N H) (hS : va_S A s.heap H locs) (hl : lv_has ls 4 [(3, .int (nI i)), (0, .ref b), (1, .ref p0), (2, .ref h0)]) : W p l e ({ frames := 17, cells := 600000, slots := 7302250, locals := 670 }) s m #[Value.ref b] below meth c H locs cells slots Q (F0 m 503 ls []) := by
  have hK := G.2.1
  have hN0 := G.1
  obtain ⟨ha, s0, b1, v1, q0, b2, v2, a1, a2, a3, a4, hp, cp1, ml1, f1, xs1, cp2, ml2, f2, xs2, ys, md, td, hd, gd, hP, hD, ht1, ht2, h40, hm, hy, hR, hlt⟩ := hI
  refine lv_aload_n hx hb d_L_law_503 rfl (lv_at hl 2 rfl) ?_
  refine go_i (wr := [(ha, .inl (gI g, 8, .inl hp)), (s0, .inr (1, [.ref b1])), (b1, .inr (3, [.ref v1, .int 0, .int ml1, .int (nI xs1.length)])), (v1, .inl (gB g, cp1, .inl f1)), (h0, .inr (4, [.ref a1, .int (nI ys.length), .ref a2, .int (nI (xs2.map nI).length), .ref a3, .ref a4, .int (nI (100 + N))])), (a1, .inl (gI g, 200, .inl md)), (a2, .inl (gI g, 40, .inl td)), (a3, .inl (gI g, 8, .inl hd)), (a4, .inl (gI g, 8, .inl gd))]) (run_V hF (c_P_find g l _ p0 ha s0 q0 b2 v2 cp2 ml2 f2 xs2 ht2) k_P_find j_L_64 se_P_P_find (va_recv hK hP (ci := 0) (q0 := 0) rfl rfl) (cw_down G hP hD hS hA [0, 5, 6, 7] rfl rfl) ⟨Nat.le_of_ble_eq_true rfl, Nat.le_of_ble_eq_true rfl⟩ rfl hl.1 (Nat.le_of_ble_eq_true rfl) d_L_law_504 ⟨(by first | exact Nat.le_of_ble_eq_true rfl | (dsimp only; omega) | omega), (by first | exact Nat.le_of_ble_eq_true rfl | (dsimp only; omega) | omega)⟩) hP hD hS hA [0, 5, 6, 7] [1, 2, 3, 4, 8, 9, 10, 11, 12] rfl rfl rfl (by decide) (fun r_1 w1 H locs hp1 hP hD hS => ?_)
  obtain ⟨v_2, ml_2, f_2, rfl, ht_2, rfl⟩ := hp1
  have hP : va_P (gD g) classes [(ha, .inl (gI g, 8, .inl hp)), (s0, .inr (1, [.ref b1])), (b1, .inr (3, [.ref v1, .int 0, .int ml1, .int (nI xs1.length)])), (v1, .inl (gB g, cp1, .inl f1)), (h0, .inr (4, [.ref a1, .int (nI ys.length), .ref a2, .int (nI (xs2.map nI).length), .ref a3, .ref a4, .int (nI (100 + N))])), (a1, .inl (gI g, 200, .inl md)), (a2, .inl (gI g, 40, .inl td)), (a3, .inl (gI g, 8, .inl hd)), (a4, .inl (gI g, 8, .inl gd)), (p0, .inr (0, [.ref ha, .ref s0, .ref q0])), (q0, .inr (2, [.ref b2])), (b2, .inr (3, [.ref v_2, .int 0, .int ml_2, .int (nI ([] : List Nat).length)])), (v_2, .inl (gB g, cp2, .inl f_2))] H := hP
  have hD : va_D A [(ha, .inl (gI g, 8, .inl hp)), (s0, .inr (1, [.ref b1])), (b1, .inr (3, [.ref v1, .int 0, .int ml1, .int (nI xs1.length)])), (v1, .inl (gB g, cp1, .inl f1)), (h0, .inr (4, [.ref a1, .int (nI ys.length), .ref a2, .int (nI (xs2.map nI).length), .ref a3, .ref a4, .int (nI (100 + N))])), (a1, .inl (gI g, 200, .inl md)), (a2, .inl (gI g, 40, .inl td)), (a3, .inl (gI g, 8, .inl hd)), (a4, .inl (gI g, 8, .inl gd)), (p0, .inr (0, [.ref ha, .ref s0, .ref q0])), (q0, .inr (2, [.ref b2])), (b2, .inr (3, [.ref v_2, .int 0, .int ml_2, .int (nI ([] : List Nat).length)])), (v_2, .inl (gB g, cp2, .inl f_2))] := hD
  refine lv_aload_n hx hb d_L_law_507 rfl (lv_at hl 3 rfl) ?_
  refine go_i (wr := [(ha, .inl (gI g, 8, .inl hp)), (s0, .inr (1, [.ref b1])), (b1, .inr (3, [.ref v1, .int 0, .int ml1, .int (nI xs1.length)])), (v1, .inl (gB g, cp1, .inl f1)), (a3, .inl (gI g, 8, .inl hd)), (a4, .inl (gI g, 8, .inl gd)), (p0, .inr (0, [.ref ha, .ref s0, .ref q0])), (q0, .inr (2, [.ref b2])), (b2, .inr (3, [.ref v_2, .int 0, .int ml_2, .int (nI ([] : List Nat).length)])), (v_2, .inl (gB g, cp2, .inl f_2))]) (run_V hF (c_M_find g l _ h0 a1 a2 a3 a4 (nI (100 + N)) ys md hm (xs2.map nI) td hy) k_M_find j_L_68 se_M_M_find (va_recv hK hP (ci := 4) (q0 := 4) rfl rfl) (cw_down G hP hD hS hA [4, 5, 6] rfl rfl) ⟨Nat.le_of_ble_eq_true rfl, Nat.le_of_ble_eq_true rfl⟩ rfl hl.1 (Nat.le_of_ble_eq_true rfl) d_L_law_508 ⟨(by first | exact Nat.le_of_ble_eq_true rfl | (dsimp only; omega) | omega), (by first | exact Nat.le_of_ble_eq_true rfl | (dsimp only; omega) | omega)⟩) hP hD hS hA [4, 5, 6] [0, 1, 2, 3, 7, 8, 9, 10, 11, 12] rfl rfl rfl (by decide) (fun r_3 w1 H locs hp1 hP hD hS => ?_)
  obtain ⟨rfl, L_4, md_4, rfl, hm_4⟩ := hp1
  have hP : va_P (gD g) classes [(ha, .inl (gI g, 8, .inl hp)), (s0, .inr (1, [.ref b1])), (b1, .inr (3, [.ref v1, .int 0, .int ml1, .int (nI xs1.length)])), (v1, .inl (gB g, cp1, .inl f1)), (a3, .inl (gI g, 8, .inl hd)), (a4, .inl (gI g, 8, .inl gd)), (p0, .inr (0, [.ref ha, .ref s0, .ref q0])), (q0, .inr (2, [.ref b2])), (b2, .inr (3, [.ref v_2, .int 0, .int ml_2, .int (nI ([] : List Nat).length)])), (v_2, .inl (gB g, cp2, .inl f_2)), (h0, .inr (4, [.ref a1, .int (nI L_4.length), .ref a2, .int 0, .ref a3, .ref a4, .int (nI (100 + N))])), (a1, .inl (gI g, 200, .inl md_4)), (a2, .inl (gI g, 40, .inl td))] H := hP
  have hD : va_D A [(ha, .inl (gI g, 8, .inl hp)), (s0, .inr (1, [.ref b1])), (b1, .inr (3, [.ref v1, .int 0, .int ml1, .int (nI xs1.length)])), (v1, .inl (gB g, cp1, .inl f1)), (a3, .inl (gI g, 8, .inl hd)), (a4, .inl (gI g, 8, .inl gd)), (p0, .inr (0, [.ref ha, .ref s0, .ref q0])), (q0, .inr (2, [.ref b2])), (b2, .inr (3, [.ref v_2, .int 0, .int ml_2, .int (nI ([] : List Nat).length)])), (v_2, .inl (gB g, cp2, .inl f_2)), (h0, .inr (4, [.ref a1, .int (nI L_4.length), .ref a2, .int 0, .ref a3, .ref a4, .int (nI (100 + N))])), (a1, .inl (gI g, 200, .inl md_4)), (a2, .inl (gI g, 40, .inl td))] := hD
  refine lv_icmp_eq (tgt := 694) hx hb d_L_law_511 (by decide) (fun c_5 => ?_) (fun c_5 => absurd (e_find _ ht2.2.2.2.2.1 h40) c_5)
  exact hend N _ _ _ _ _ (Nat.le_succ _) (by first | exact Nat.le_of_ble_eq_true rfl | (dsimp only; omega) | omega) (by first | exact Nat.le_of_ble_eq_true rfl | (dsimp only; omega) | omega) ⟨_, _, _, _, _, _, _, _, _, _, _, _, _, _, _, _, _, _, _, _, _, _, _, _, _, hP.sub [6, 0, 1, 2, 3, 7, 8, 9, 10, 11, 12, 4, 5] rfl, hD.sub [6, 0, 1, 2, 3, 7, 8, 9, 10, 11, 12, 4, 5] rfl rfl, ht1, ht_2, (Nat.zero_le _), hm_4, ⟨Nat.zero_le _, fun i hi => absurd hi (Nat.not_lt_zero i)⟩, hR, hlt⟩ hS (lv_sub hl [0, 1, 2, 3] rfl)
theorem j_L_69 : Cond.methodLink R_L 69 y_P_put ∈ tk := tk_of (List.mem_of_getElem? (i := 631) (by decide +kernel)) rfl
theorem se_P_P_put : Cond.selects R_P y_P_put y_P_put ∈ tk := tk_of (List.mem_of_getElem? (i := 633) (by decide +kernel)) rfl
theorem j_L_72 : Cond.methodLink R_L 72 y_M_put ∈ tk := tk_of (List.mem_of_getElem? (i := 881) (by decide +kernel)) rfl
theorem se_M_M_put : Cond.selects R_M y_M_put y_M_put ∈ tk := tk_of (List.mem_of_getElem? (i := 883) (by decide +kernel)) rfl
set_option maxHeartbeats 4000000 in
set_option maxRecDepth 100000 in
theorem lc_12 {p : Program} {l : Launch} {e : Env} {s : State} {m : MethodId} {below : List Frame} {meth : Method} {c : Code} {g : gT} {A : Nat → Prop} {Q : State → Prop} {b L : Nat} {xs : Nat → Int32} (hL : L ≤ 2048) (hx : p.tables.exec = Jvm.exec) (hb : c.code = b_L_law) (hF : CallFix p m c b_L_law 4 s #[Value.ref b] tk R_L) (hA : ∀ q, s.heap.size ≤ q → A q) (G : Gx g A s s.heap) (hX : va_X b L xs s s.heap) (hbl : b < s.heap.size) (hbA : ¬ A b) (p0 h0 i N cells slots : Nat) (hi : i + 4 ≤ L) (hN : N ≤ 100000) (hc : cells + 70 ≤ 600000) (hs : slots + 2300 ≤ 7302250)
    (hend : ∀ (N' : Nat) (H : Heap) (locs : List Loc) (ls : Array Slot) (cells' slots' : Nat), N' ≤ N + 1 → cells' ≤ cells + 70 → slots' ≤ slots + 2300 → lI g A p0 h0 N' H → va_S A s.heap H locs → lv_has ls 4 [(3, .int (nI i)), (0, .ref b), (1, .ref p0), (2, .ref h0)] → W p l e ({ frames := 17, cells := 600000, slots := 7302250, locals := 670 }) s m #[Value.ref b] below meth c H locs cells' slots' Q (F0 m 694 ls []))
    (H : Heap) (locs : List Loc) (ls : Array Slot) (hI : lI g A p0 h0 N H) (hS : va_S A s.heap H locs) (hl : lv_has ls 4 [(3, .int (nI i)), (0, .ref b), (1, .ref p0), (2, .ref h0)]) : W p l e ({ frames := 17, cells := 600000, slots := 7302250, locals := 670 }) s m #[Value.ref b] below meth c H locs cells slots Q (F0 m 516 ls []) := by
  have hK := G.2.1
  have hN0 := G.1
  obtain ⟨ha, s0, b1, v1, q0, b2, v2, a1, a2, a3, a4, hp, cp1, ml1, f1, xs1, cp2, ml2, f2, xs2, ys, md, td, hd, gd, hP, hD, ht1, ht2, h40, hm, hy, hR, hlt⟩ := hI
  refine lv_aload_n hx hb d_L_law_516 rfl (lv_at hl 2 rfl) ?_
  refine lv_aload_n hx hb d_L_law_517 rfl (lv_at hl 1 rfl) ?_
  refine lv_iload_n hx hb d_L_law_518 rfl (lv_at hl 0 rfl) ?_
  refine lv_iconst (v := 1) hx hb d_L_law_519 (by decide) ?_
  refine lv_iadd hx hb d_L_law_520 ?_
  refine tp_i (show nI i + 1 = nI (i + 1) from l_k1 i) ?_
  refine va_sld hx hb hX hbl hbA hS (vp_in_nI (n := i + 1) (N := L) (by omega) (by omega)) d_L_law_521 ?_
  refine lv_aload_n hx hb d_L_law_522 rfl (lv_at hl 1 rfl) ?_
  refine lv_iload_n hx hb d_L_law_523 rfl (lv_at hl 0 rfl) ?_
  refine lv_iconst (v := 2) hx hb d_L_law_524 (by decide) ?_
  refine lv_iadd hx hb d_L_law_525 ?_
  refine tp_i (show nI i + 2 = nI (i + 2) from l_k2 i) ?_
  refine va_sld hx hb hX hbl hbA hS (vp_in_nI (n := i + 2) (N := L) (by omega) (by omega)) d_L_law_526 ?_
  refine go_i (wr := [(s0, .inr (1, [.ref b1])), (b1, .inr (3, [.ref v1, .int 0, .int ml1, .int (nI xs1.length)])), (v1, .inl (gB g, cp1, .inl f1)), (q0, .inr (2, [.ref b2])), (b2, .inr (3, [.ref v2, .int 0, .int ml2, .int (nI xs2.length)])), (v2, .inl (gB g, cp2, .inl f2)), (h0, .inr (4, [.ref a1, .int (nI ys.length), .ref a2, .int (nI (xs2.map nI).length), .ref a3, .ref a4, .int (nI (100 + N))])), (a1, .inl (gI g, 200, .inl md)), (a2, .inl (gI g, 40, .inl td)), (a3, .inl (gI g, 8, .inl hd)), (a4, .inl (gI g, 8, .inl gd))]) (run_V hF (c_P_put g l _ p0 ha s0 q0 hp (xs (nI (i + 1)).toNatClampNeg) (xs (nI (i + 2)).toNatClampNeg)) k_P_put j_L_69 se_P_P_put (va_recv hK hP (ci := 0) (q0 := 0) rfl rfl) (cw_down G hP hD hS hA [0, 1] rfl rfl) ⟨Nat.le_of_ble_eq_true rfl, Nat.le_of_ble_eq_true rfl⟩ rfl hl.1 (Nat.le_of_ble_eq_true rfl) d_L_law_527 ⟨(by first | exact Nat.le_of_ble_eq_true rfl | (dsimp only; omega) | omega), (by first | exact Nat.le_of_ble_eq_true rfl | (dsimp only; omega) | omega)⟩) hP hD hS hA [0, 1] [2, 3, 4, 5, 6, 7, 8, 9, 10, 11, 12] rfl rfl rfl (by decide) (fun r_1 w1 H locs hp1 hP hD hS => ?_)
  obtain ⟨rfl, rfl⟩ := hp1
  have hP : va_P (gD g) classes [(s0, .inr (1, [.ref b1])), (b1, .inr (3, [.ref v1, .int 0, .int ml1, .int (nI xs1.length)])), (v1, .inl (gB g, cp1, .inl f1)), (q0, .inr (2, [.ref b2])), (b2, .inr (3, [.ref v2, .int 0, .int ml2, .int (nI xs2.length)])), (v2, .inl (gB g, cp2, .inl f2)), (h0, .inr (4, [.ref a1, .int (nI ys.length), .ref a2, .int (nI (xs2.map nI).length), .ref a3, .ref a4, .int (nI (100 + N))])), (a1, .inl (gI g, 200, .inl md)), (a2, .inl (gI g, 40, .inl td)), (a3, .inl (gI g, 8, .inl hd)), (a4, .inl (gI g, 8, .inl gd)), (p0, .inr (0, [.ref ha, .ref s0, .ref q0])), (ha, .inl (gI g, 8, .inl (zp_P_put hp (xs (nI (i + 1)).toNatClampNeg) (xs (nI (i + 2)).toNatClampNeg)).2))] H := hP
  have hD : va_D A [(s0, .inr (1, [.ref b1])), (b1, .inr (3, [.ref v1, .int 0, .int ml1, .int (nI xs1.length)])), (v1, .inl (gB g, cp1, .inl f1)), (q0, .inr (2, [.ref b2])), (b2, .inr (3, [.ref v2, .int 0, .int ml2, .int (nI xs2.length)])), (v2, .inl (gB g, cp2, .inl f2)), (h0, .inr (4, [.ref a1, .int (nI ys.length), .ref a2, .int (nI (xs2.map nI).length), .ref a3, .ref a4, .int (nI (100 + N))])), (a1, .inl (gI g, 200, .inl md)), (a2, .inl (gI g, 40, .inl td)), (a3, .inl (gI g, 8, .inl hd)), (a4, .inl (gI g, 8, .inl gd)), (p0, .inr (0, [.ref ha, .ref s0, .ref q0])), (ha, .inl (gI g, 8, .inl (zp_P_put hp (xs (nI (i + 1)).toNatClampNeg) (xs (nI (i + 2)).toNatClampNeg)).2))] := hD
  refine lv_aload_n hx hb d_L_law_530 rfl (lv_at hl 3 rfl) ?_
  refine lv_aload_n hx hb d_L_law_531 rfl (lv_at hl 1 rfl) ?_
  refine lv_iload_n hx hb d_L_law_532 rfl (lv_at hl 0 rfl) ?_
  refine lv_iconst (v := 1) hx hb d_L_law_533 (by decide) ?_
  refine lv_iadd hx hb d_L_law_534 ?_
  refine tp_i (show nI i + 1 = nI (i + 1) from l_k1 i) ?_
  refine va_sld hx hb hX hbl hbA hS (vp_in_nI (n := i + 1) (N := L) (by omega) (by omega)) d_L_law_535 ?_
  refine lv_aload_n hx hb d_L_law_536 rfl (lv_at hl 1 rfl) ?_
  refine lv_iload_n hx hb d_L_law_537 rfl (lv_at hl 0 rfl) ?_
  refine lv_iconst (v := 2) hx hb d_L_law_538 (by decide) ?_
  refine lv_iadd hx hb d_L_law_539 ?_
  refine tp_i (show nI i + 2 = nI (i + 2) from l_k2 i) ?_
  refine va_sld hx hb hX hbl hbA hS (vp_in_nI (n := i + 2) (N := L) (by omega) (by omega)) d_L_law_540 ?_
  refine go_i (wr := [(s0, .inr (1, [.ref b1])), (b1, .inr (3, [.ref v1, .int 0, .int ml1, .int (nI xs1.length)])), (v1, .inl (gB g, cp1, .inl f1)), (q0, .inr (2, [.ref b2])), (b2, .inr (3, [.ref v2, .int 0, .int ml2, .int (nI xs2.length)])), (v2, .inl (gB g, cp2, .inl f2)), (a1, .inl (gI g, 200, .inl md)), (a2, .inl (gI g, 40, .inl td)), (p0, .inr (0, [.ref ha, .ref s0, .ref q0])), (ha, .inl (gI g, 8, .inl (zp_P_put hp (xs (nI (i + 1)).toNatClampNeg) (xs (nI (i + 2)).toNatClampNeg)).2))]) (run_V hF (c_M_put g l _ h0 a1 a2 a3 a4 (nI ys.length) (nI (xs2.map nI).length) (nI (100 + N)) hd gd (xs (nI (i + 1)).toNatClampNeg) (xs (nI (i + 2)).toNatClampNeg)) k_M_put j_L_72 se_M_M_put (va_recv hK hP (ci := 4) (q0 := 6) rfl rfl) (cw_down G hP hD hS hA [6, 9, 10] rfl rfl) ⟨Nat.le_of_ble_eq_true rfl, Nat.le_of_ble_eq_true rfl⟩ rfl hl.1 (Nat.le_of_ble_eq_true rfl) d_L_law_541 ⟨(by first | exact Nat.le_of_ble_eq_true rfl | (dsimp only; omega) | omega), (by first | exact Nat.le_of_ble_eq_true rfl | (dsimp only; omega) | omega)⟩) hP hD hS hA [6, 9, 10] [0, 1, 2, 3, 4, 5, 7, 8, 11, 12] rfl rfl rfl (by decide) (fun r_2 w1 H locs hp1 hP hD hS => ?_)
  obtain ⟨rfl, rfl⟩ := hp1
  obtain ⟨ep_3, N_3, hN_3, en_3, hR_3⟩ := e_put hR hN (xs (nI (i + 1)).toNatClampNeg) (xs (nI (i + 2)).toNatClampNeg)
  rw [en_3] at hP hD
  have hP : va_P (gD g) classes [(s0, .inr (1, [.ref b1])), (b1, .inr (3, [.ref v1, .int 0, .int ml1, .int (nI xs1.length)])), (v1, .inl (gB g, cp1, .inl f1)), (q0, .inr (2, [.ref b2])), (b2, .inr (3, [.ref v2, .int 0, .int ml2, .int (nI xs2.length)])), (v2, .inl (gB g, cp2, .inl f2)), (a1, .inl (gI g, 200, .inl md)), (a2, .inl (gI g, 40, .inl td)), (p0, .inr (0, [.ref ha, .ref s0, .ref q0])), (ha, .inl (gI g, 8, .inl (zp_P_put hp (xs (nI (i + 1)).toNatClampNeg) (xs (nI (i + 2)).toNatClampNeg)).2)), (h0, .inr (4, [.ref a1, .int (nI ys.length), .ref a2, .int (nI (xs2.map nI).length), .ref a3, .ref a4, .int (nI (100 + N_3))])), (a3, .inl (gI g, 8, .inl (zp_M_put (nI (100 + N)) hd gd (xs (nI (i + 1)).toNatClampNeg) (xs (nI (i + 2)).toNatClampNeg)).2.2.1)), (a4, .inl (gI g, 8, .inl (zp_M_put (nI (100 + N)) hd gd (xs (nI (i + 1)).toNatClampNeg) (xs (nI (i + 2)).toNatClampNeg)).2.2.2))] H := hP
  have hD : va_D A [(s0, .inr (1, [.ref b1])), (b1, .inr (3, [.ref v1, .int 0, .int ml1, .int (nI xs1.length)])), (v1, .inl (gB g, cp1, .inl f1)), (q0, .inr (2, [.ref b2])), (b2, .inr (3, [.ref v2, .int 0, .int ml2, .int (nI xs2.length)])), (v2, .inl (gB g, cp2, .inl f2)), (a1, .inl (gI g, 200, .inl md)), (a2, .inl (gI g, 40, .inl td)), (p0, .inr (0, [.ref ha, .ref s0, .ref q0])), (ha, .inl (gI g, 8, .inl (zp_P_put hp (xs (nI (i + 1)).toNatClampNeg) (xs (nI (i + 2)).toNatClampNeg)).2)), (h0, .inr (4, [.ref a1, .int (nI ys.length), .ref a2, .int (nI (xs2.map nI).length), .ref a3, .ref a4, .int (nI (100 + N_3))])), (a3, .inl (gI g, 8, .inl (zp_M_put (nI (100 + N)) hd gd (xs (nI (i + 1)).toNatClampNeg) (xs (nI (i + 2)).toNatClampNeg)).2.2.1)), (a4, .inl (gI g, 8, .inl (zp_M_put (nI (100 + N)) hd gd (xs (nI (i + 1)).toNatClampNeg) (xs (nI (i + 2)).toNatClampNeg)).2.2.2))] := hD
  refine lv_icmp_eq (tgt := 694) hx hb d_L_law_544 (by decide) (fun c_4 => ?_) (fun c_4 => absurd ep_3 c_4)
  exact hend N_3 _ _ _ _ _ hN_3 (by first | exact Nat.le_of_ble_eq_true rfl | (dsimp only; omega) | omega) (by first | exact Nat.le_of_ble_eq_true rfl | (dsimp only; omega) | omega) ⟨_, _, _, _, _, _, _, _, _, _, _, _, _, _, _, _, _, _, _, _, _, _, _, _, _, hP.sub [8, 9, 0, 1, 2, 3, 4, 5, 10, 6, 7, 11, 12] rfl, hD.sub [8, 9, 0, 1, 2, 3, 4, 5, 10, 6, 7, 11, 12] rfl rfl, ht1, ht2, h40, hm, hy, hR_3, (put_lt hlt)⟩ hS (lv_sub hl [0, 1, 2, 3] rfl)
theorem j_L_73 : Cond.methodLink R_L 73 y_P_typeOf ∈ tk := tk_of (List.mem_of_getElem? (i := 641) (by decide +kernel)) rfl
theorem se_P_P_typeOf : Cond.selects R_P y_P_typeOf y_P_typeOf ∈ tk := tk_of (List.mem_of_getElem? (i := 643) (by decide +kernel)) rfl
theorem j_L_76 : Cond.methodLink R_L 76 y_M_typeOf ∈ tk := tk_of (List.mem_of_getElem? (i := 885) (by decide +kernel)) rfl
theorem se_M_M_typeOf : Cond.selects R_M y_M_typeOf y_M_typeOf ∈ tk := tk_of (List.mem_of_getElem? (i := 887) (by decide +kernel)) rfl
set_option maxHeartbeats 4000000 in
set_option maxRecDepth 100000 in
theorem lc_13 {p : Program} {l : Launch} {e : Env} {s : State} {m : MethodId} {below : List Frame} {meth : Method} {c : Code} {g : gT} {A : Nat → Prop} {Q : State → Prop} {b L : Nat} {xs : Nat → Int32} (hL : L ≤ 2048) (hx : p.tables.exec = Jvm.exec) (hb : c.code = b_L_law) (hF : CallFix p m c b_L_law 4 s #[Value.ref b] tk R_L) (hA : ∀ q, s.heap.size ≤ q → A q) (G : Gx g A s s.heap) (hX : va_X b L xs s s.heap) (hbl : b < s.heap.size) (hbA : ¬ A b) (p0 h0 i N cells slots : Nat) (hi : i + 4 ≤ L) (hN : N ≤ 100000) (hc : cells + 70 ≤ 600000) (hs : slots + 2300 ≤ 7302250)
    (hend : ∀ (N' : Nat) (H : Heap) (locs : List Loc) (ls : Array Slot) (cells' slots' : Nat), N' ≤ N + 1 → cells' ≤ cells + 70 → slots' ≤ slots + 2300 → lI g A p0 h0 N' H → va_S A s.heap H locs → lv_has ls 4 [(3, .int (nI i)), (0, .ref b), (1, .ref p0), (2, .ref h0)] → W p l e ({ frames := 17, cells := 600000, slots := 7302250, locals := 670 }) s m #[Value.ref b] below meth c H locs cells' slots' Q (F0 m 694 ls []))
    (H : Heap) (locs : List Loc) (ls : Array Slot) (hI : lI g A p0 h0 N H) (hS : va_S A s.heap H locs) (hl : lv_has ls 4 [(3, .int (nI i)), (0, .ref b), (1, .ref p0), (2, .ref h0)]) : W p l e ({ frames := 17, cells := 600000, slots := 7302250, locals := 670 }) s m #[Value.ref b] below meth c H locs cells slots Q (F0 m 549 ls []) := by
  have hK := G.2.1
  have hN0 := G.1
  obtain ⟨ha, s0, b1, v1, q0, b2, v2, a1, a2, a3, a4, hp, cp1, ml1, f1, xs1, cp2, ml2, f2, xs2, ys, md, td, hd, gd, hP, hD, ht1, ht2, h40, hm, hy, hR, hlt⟩ := hI
  refine lv_aload_n hx hb d_L_law_549 rfl (lv_at hl 2 rfl) ?_
  refine lv_aload_n hx hb d_L_law_550 rfl (lv_at hl 1 rfl) ?_
  refine lv_iload_n hx hb d_L_law_551 rfl (lv_at hl 0 rfl) ?_
  refine lv_iconst (v := 1) hx hb d_L_law_552 (by decide) ?_
  refine lv_iadd hx hb d_L_law_553 ?_
  refine tp_i (show nI i + 1 = nI (i + 1) from l_k1 i) ?_
  refine va_sld hx hb hX hbl hbA hS (vp_in_nI (n := i + 1) (N := L) (by omega) (by omega)) d_L_law_554 ?_
  refine go_i (wr := [(s0, .inr (1, [.ref b1])), (b1, .inr (3, [.ref v1, .int 0, .int ml1, .int (nI xs1.length)])), (v1, .inl (gB g, cp1, .inl f1)), (q0, .inr (2, [.ref b2])), (b2, .inr (3, [.ref v2, .int 0, .int ml2, .int (nI xs2.length)])), (v2, .inl (gB g, cp2, .inl f2)), (h0, .inr (4, [.ref a1, .int (nI ys.length), .ref a2, .int (nI (xs2.map nI).length), .ref a3, .ref a4, .int (nI (100 + N))])), (a1, .inl (gI g, 200, .inl md)), (a2, .inl (gI g, 40, .inl td)), (a3, .inl (gI g, 8, .inl hd)), (a4, .inl (gI g, 8, .inl gd))]) (run_V hF (c_P_typeOf g l _ p0 ha s0 q0 hp (xs (nI (i + 1)).toNatClampNeg)) k_P_typeOf j_L_73 se_P_P_typeOf (va_recv hK hP (ci := 0) (q0 := 0) rfl rfl) (cw_down G hP hD hS hA [0, 1] rfl rfl) ⟨Nat.le_of_ble_eq_true rfl, Nat.le_of_ble_eq_true rfl⟩ rfl hl.1 (Nat.le_of_ble_eq_true rfl) d_L_law_555 ⟨(by first | exact Nat.le_of_ble_eq_true rfl | (dsimp only; omega) | omega), (by first | exact Nat.le_of_ble_eq_true rfl | (dsimp only; omega) | omega)⟩) hP hD hS hA [0, 1] [2, 3, 4, 5, 6, 7, 8, 9, 10, 11, 12] rfl rfl rfl (by decide) (fun r_1 w1 H locs hp1 hP hD hS => ?_)
  obtain ⟨rfl, rfl⟩ := hp1
  have hP : va_P (gD g) classes [(s0, .inr (1, [.ref b1])), (b1, .inr (3, [.ref v1, .int 0, .int ml1, .int (nI xs1.length)])), (v1, .inl (gB g, cp1, .inl f1)), (q0, .inr (2, [.ref b2])), (b2, .inr (3, [.ref v2, .int 0, .int ml2, .int (nI xs2.length)])), (v2, .inl (gB g, cp2, .inl f2)), (h0, .inr (4, [.ref a1, .int (nI ys.length), .ref a2, .int (nI (xs2.map nI).length), .ref a3, .ref a4, .int (nI (100 + N))])), (a1, .inl (gI g, 200, .inl md)), (a2, .inl (gI g, 40, .inl td)), (a3, .inl (gI g, 8, .inl hd)), (a4, .inl (gI g, 8, .inl gd)), (p0, .inr (0, [.ref ha, .ref s0, .ref q0])), (ha, .inl (gI g, 8, .inl hp))] H := hP
  have hD : va_D A [(s0, .inr (1, [.ref b1])), (b1, .inr (3, [.ref v1, .int 0, .int ml1, .int (nI xs1.length)])), (v1, .inl (gB g, cp1, .inl f1)), (q0, .inr (2, [.ref b2])), (b2, .inr (3, [.ref v2, .int 0, .int ml2, .int (nI xs2.length)])), (v2, .inl (gB g, cp2, .inl f2)), (h0, .inr (4, [.ref a1, .int (nI ys.length), .ref a2, .int (nI (xs2.map nI).length), .ref a3, .ref a4, .int (nI (100 + N))])), (a1, .inl (gI g, 200, .inl md)), (a2, .inl (gI g, 40, .inl td)), (a3, .inl (gI g, 8, .inl hd)), (a4, .inl (gI g, 8, .inl gd)), (p0, .inr (0, [.ref ha, .ref s0, .ref q0])), (ha, .inl (gI g, 8, .inl hp))] := hD
  refine lv_aload_n hx hb d_L_law_558 rfl (lv_at hl 3 rfl) ?_
  refine lv_aload_n hx hb d_L_law_559 rfl (lv_at hl 1 rfl) ?_
  refine lv_iload_n hx hb d_L_law_560 rfl (lv_at hl 0 rfl) ?_
  refine lv_iconst (v := 1) hx hb d_L_law_561 (by decide) ?_
  refine lv_iadd hx hb d_L_law_562 ?_
  refine tp_i (show nI i + 1 = nI (i + 1) from l_k1 i) ?_
  refine va_sld hx hb hX hbl hbA hS (vp_in_nI (n := i + 1) (N := L) (by omega) (by omega)) d_L_law_563 ?_
  refine go_i (wr := [(s0, .inr (1, [.ref b1])), (b1, .inr (3, [.ref v1, .int 0, .int ml1, .int (nI xs1.length)])), (v1, .inl (gB g, cp1, .inl f1)), (q0, .inr (2, [.ref b2])), (b2, .inr (3, [.ref v2, .int 0, .int ml2, .int (nI xs2.length)])), (v2, .inl (gB g, cp2, .inl f2)), (a1, .inl (gI g, 200, .inl md)), (a2, .inl (gI g, 40, .inl td)), (a4, .inl (gI g, 8, .inl gd)), (p0, .inr (0, [.ref ha, .ref s0, .ref q0])), (ha, .inl (gI g, 8, .inl hp))]) (run_V hF (c_M_typeOf g l _ h0 a1 a2 a3 a4 (nI ys.length) (nI (xs2.map nI).length) (nI (100 + N)) hd (xs (nI (i + 1)).toNatClampNeg)) k_M_typeOf j_L_76 se_M_M_typeOf (va_recv hK hP (ci := 4) (q0 := 6) rfl rfl) (cw_down G hP hD hS hA [6, 9] rfl rfl) ⟨Nat.le_of_ble_eq_true rfl, Nat.le_of_ble_eq_true rfl⟩ rfl hl.1 (Nat.le_of_ble_eq_true rfl) d_L_law_564 ⟨(by first | exact Nat.le_of_ble_eq_true rfl | (dsimp only; omega) | omega), (by first | exact Nat.le_of_ble_eq_true rfl | (dsimp only; omega) | omega)⟩) hP hD hS hA [6, 9] [0, 1, 2, 3, 4, 5, 7, 8, 10, 11, 12] rfl rfl rfl (by decide) (fun r_2 w1 H locs hp1 hP hD hS => ?_)
  obtain ⟨rfl, rfl⟩ := hp1
  have hP : va_P (gD g) classes [(s0, .inr (1, [.ref b1])), (b1, .inr (3, [.ref v1, .int 0, .int ml1, .int (nI xs1.length)])), (v1, .inl (gB g, cp1, .inl f1)), (q0, .inr (2, [.ref b2])), (b2, .inr (3, [.ref v2, .int 0, .int ml2, .int (nI xs2.length)])), (v2, .inl (gB g, cp2, .inl f2)), (a1, .inl (gI g, 200, .inl md)), (a2, .inl (gI g, 40, .inl td)), (a4, .inl (gI g, 8, .inl gd)), (p0, .inr (0, [.ref ha, .ref s0, .ref q0])), (ha, .inl (gI g, 8, .inl hp)), (h0, .inr (4, [.ref a1, .int (nI ys.length), .ref a2, .int (nI (xs2.map nI).length), .ref a3, .ref a4, .int (nI (100 + N))])), (a3, .inl (gI g, 8, .inl hd))] H := hP
  have hD : va_D A [(s0, .inr (1, [.ref b1])), (b1, .inr (3, [.ref v1, .int 0, .int ml1, .int (nI xs1.length)])), (v1, .inl (gB g, cp1, .inl f1)), (q0, .inr (2, [.ref b2])), (b2, .inr (3, [.ref v2, .int 0, .int ml2, .int (nI xs2.length)])), (v2, .inl (gB g, cp2, .inl f2)), (a1, .inl (gI g, 200, .inl md)), (a2, .inl (gI g, 40, .inl td)), (a4, .inl (gI g, 8, .inl gd)), (p0, .inr (0, [.ref ha, .ref s0, .ref q0])), (ha, .inl (gI g, 8, .inl hp)), (h0, .inr (4, [.ref a1, .int (nI ys.length), .ref a2, .int (nI (xs2.map nI).length), .ref a3, .ref a4, .int (nI (100 + N))])), (a3, .inl (gI g, 8, .inl hd))] := hD
  refine lv_icmp_eq (tgt := 694) hx hb d_L_law_567 (by decide) (fun c_3 => ?_) (fun c_3 => absurd (e_typeOf hR _) c_3)
  exact hend N _ _ _ _ _ (Nat.le_succ _) (by first | exact Nat.le_of_ble_eq_true rfl | (dsimp only; omega) | omega) (by first | exact Nat.le_of_ble_eq_true rfl | (dsimp only; omega) | omega) ⟨_, _, _, _, _, _, _, _, _, _, _, _, _, _, _, _, _, _, _, _, _, _, _, _, _, hP.sub [9, 10, 0, 1, 2, 3, 4, 5, 11, 6, 7, 12, 8] rfl, hD.sub [9, 10, 0, 1, 2, 3, 4, 5, 11, 6, 7, 12, 8] rfl rfl, ht1, ht2, h40, hm, hy, hR, hlt⟩ hS (lv_sub hl [0, 1, 2, 3] rfl)
theorem j_L_77 : Cond.methodLink R_L 77 y_P_isOf ∈ tk := tk_of (List.mem_of_getElem? (i := 645) (by decide +kernel)) rfl
theorem se_P_P_isOf : Cond.selects R_P y_P_isOf y_P_isOf ∈ tk := tk_of (List.mem_of_getElem? (i := 647) (by decide +kernel)) rfl
theorem j_L_80 : Cond.methodLink R_L 80 y_M_isOf ∈ tk := tk_of (List.mem_of_getElem? (i := 889) (by decide +kernel)) rfl
theorem se_M_M_isOf : Cond.selects R_M y_M_isOf y_M_isOf ∈ tk := tk_of (List.mem_of_getElem? (i := 891) (by decide +kernel)) rfl
set_option maxHeartbeats 4000000 in
set_option maxRecDepth 100000 in
theorem lc_14 {p : Program} {l : Launch} {e : Env} {s : State} {m : MethodId} {below : List Frame} {meth : Method} {c : Code} {g : gT} {A : Nat → Prop} {Q : State → Prop} {b L : Nat} {xs : Nat → Int32} (hL : L ≤ 2048) (hx : p.tables.exec = Jvm.exec) (hb : c.code = b_L_law) (hF : CallFix p m c b_L_law 4 s #[Value.ref b] tk R_L) (hA : ∀ q, s.heap.size ≤ q → A q) (G : Gx g A s s.heap) (hX : va_X b L xs s s.heap) (hbl : b < s.heap.size) (hbA : ¬ A b) (p0 h0 i N cells slots : Nat) (hi : i + 4 ≤ L) (hN : N ≤ 100000) (hc : cells + 70 ≤ 600000) (hs : slots + 2300 ≤ 7302250)
    (hend : ∀ (N' : Nat) (H : Heap) (locs : List Loc) (ls : Array Slot) (cells' slots' : Nat), N' ≤ N + 1 → cells' ≤ cells + 70 → slots' ≤ slots + 2300 → lI g A p0 h0 N' H → va_S A s.heap H locs → lv_has ls 4 [(3, .int (nI i)), (0, .ref b), (1, .ref p0), (2, .ref h0)] → W p l e ({ frames := 17, cells := 600000, slots := 7302250, locals := 670 }) s m #[Value.ref b] below meth c H locs cells' slots' Q (F0 m 694 ls []))
    (H : Heap) (locs : List Loc) (ls : Array Slot) (hI : lI g A p0 h0 N H) (hS : va_S A s.heap H locs) (hl : lv_has ls 4 [(3, .int (nI i)), (0, .ref b), (1, .ref p0), (2, .ref h0)]) : W p l e ({ frames := 17, cells := 600000, slots := 7302250, locals := 670 }) s m #[Value.ref b] below meth c H locs cells slots Q (F0 m 572 ls []) := by
  have hK := G.2.1
  have hN0 := G.1
  obtain ⟨ha, s0, b1, v1, q0, b2, v2, a1, a2, a3, a4, hp, cp1, ml1, f1, xs1, cp2, ml2, f2, xs2, ys, md, td, hd, gd, hP, hD, ht1, ht2, h40, hm, hy, hR, hlt⟩ := hI
  refine lv_aload_n hx hb d_L_law_572 rfl (lv_at hl 2 rfl) ?_
  refine lv_aload_n hx hb d_L_law_573 rfl (lv_at hl 1 rfl) ?_
  refine lv_iload_n hx hb d_L_law_574 rfl (lv_at hl 0 rfl) ?_
  refine lv_iconst (v := 1) hx hb d_L_law_575 (by decide) ?_
  refine lv_iadd hx hb d_L_law_576 ?_
  refine tp_i (show nI i + 1 = nI (i + 1) from l_k1 i) ?_
  refine va_sld hx hb hX hbl hbA hS (vp_in_nI (n := i + 1) (N := L) (by omega) (by omega)) d_L_law_577 ?_
  refine lv_aload_n hx hb d_L_law_578 rfl (lv_at hl 1 rfl) ?_
  refine lv_iload_n hx hb d_L_law_579 rfl (lv_at hl 0 rfl) ?_
  refine lv_iconst (v := 2) hx hb d_L_law_580 (by decide) ?_
  refine lv_iadd hx hb d_L_law_581 ?_
  refine tp_i (show nI i + 2 = nI (i + 2) from l_k2 i) ?_
  refine va_sld hx hb hX hbl hbA hS (vp_in_nI (n := i + 2) (N := L) (by omega) (by omega)) d_L_law_582 ?_
  refine go_i (wr := [(s0, .inr (1, [.ref b1])), (b1, .inr (3, [.ref v1, .int 0, .int ml1, .int (nI xs1.length)])), (v1, .inl (gB g, cp1, .inl f1)), (q0, .inr (2, [.ref b2])), (b2, .inr (3, [.ref v2, .int 0, .int ml2, .int (nI xs2.length)])), (v2, .inl (gB g, cp2, .inl f2)), (h0, .inr (4, [.ref a1, .int (nI ys.length), .ref a2, .int (nI (xs2.map nI).length), .ref a3, .ref a4, .int (nI (100 + N))])), (a1, .inl (gI g, 200, .inl md)), (a2, .inl (gI g, 40, .inl td)), (a3, .inl (gI g, 8, .inl hd)), (a4, .inl (gI g, 8, .inl gd))]) (run_V hF (c_P_isOf g l _ p0 ha s0 q0 hp (xs (nI (i + 1)).toNatClampNeg) (xs (nI (i + 2)).toNatClampNeg)) k_P_isOf j_L_77 se_P_P_isOf (va_recv hK hP (ci := 0) (q0 := 0) rfl rfl) (cw_down G hP hD hS hA [0, 1] rfl rfl) ⟨Nat.le_of_ble_eq_true rfl, Nat.le_of_ble_eq_true rfl⟩ rfl hl.1 (Nat.le_of_ble_eq_true rfl) d_L_law_583 ⟨(by first | exact Nat.le_of_ble_eq_true rfl | (dsimp only; omega) | omega), (by first | exact Nat.le_of_ble_eq_true rfl | (dsimp only; omega) | omega)⟩) hP hD hS hA [0, 1] [2, 3, 4, 5, 6, 7, 8, 9, 10, 11, 12] rfl rfl rfl (by decide) (fun r_1 w1 H locs hp1 hP hD hS => ?_)
  obtain ⟨rfl, rfl⟩ := hp1
  have hP : va_P (gD g) classes [(s0, .inr (1, [.ref b1])), (b1, .inr (3, [.ref v1, .int 0, .int ml1, .int (nI xs1.length)])), (v1, .inl (gB g, cp1, .inl f1)), (q0, .inr (2, [.ref b2])), (b2, .inr (3, [.ref v2, .int 0, .int ml2, .int (nI xs2.length)])), (v2, .inl (gB g, cp2, .inl f2)), (h0, .inr (4, [.ref a1, .int (nI ys.length), .ref a2, .int (nI (xs2.map nI).length), .ref a3, .ref a4, .int (nI (100 + N))])), (a1, .inl (gI g, 200, .inl md)), (a2, .inl (gI g, 40, .inl td)), (a3, .inl (gI g, 8, .inl hd)), (a4, .inl (gI g, 8, .inl gd)), (p0, .inr (0, [.ref ha, .ref s0, .ref q0])), (ha, .inl (gI g, 8, .inl hp))] H := hP
  have hD : va_D A [(s0, .inr (1, [.ref b1])), (b1, .inr (3, [.ref v1, .int 0, .int ml1, .int (nI xs1.length)])), (v1, .inl (gB g, cp1, .inl f1)), (q0, .inr (2, [.ref b2])), (b2, .inr (3, [.ref v2, .int 0, .int ml2, .int (nI xs2.length)])), (v2, .inl (gB g, cp2, .inl f2)), (h0, .inr (4, [.ref a1, .int (nI ys.length), .ref a2, .int (nI (xs2.map nI).length), .ref a3, .ref a4, .int (nI (100 + N))])), (a1, .inl (gI g, 200, .inl md)), (a2, .inl (gI g, 40, .inl td)), (a3, .inl (gI g, 8, .inl hd)), (a4, .inl (gI g, 8, .inl gd)), (p0, .inr (0, [.ref ha, .ref s0, .ref q0])), (ha, .inl (gI g, 8, .inl hp))] := hD
  refine lv_aload_n hx hb d_L_law_586 rfl (lv_at hl 3 rfl) ?_
  refine lv_aload_n hx hb d_L_law_587 rfl (lv_at hl 1 rfl) ?_
  refine lv_iload_n hx hb d_L_law_588 rfl (lv_at hl 0 rfl) ?_
  refine lv_iconst (v := 1) hx hb d_L_law_589 (by decide) ?_
  refine lv_iadd hx hb d_L_law_590 ?_
  refine tp_i (show nI i + 1 = nI (i + 1) from l_k1 i) ?_
  refine va_sld hx hb hX hbl hbA hS (vp_in_nI (n := i + 1) (N := L) (by omega) (by omega)) d_L_law_591 ?_
  refine lv_aload_n hx hb d_L_law_592 rfl (lv_at hl 1 rfl) ?_
  refine lv_iload_n hx hb d_L_law_593 rfl (lv_at hl 0 rfl) ?_
  refine lv_iconst (v := 2) hx hb d_L_law_594 (by decide) ?_
  refine lv_iadd hx hb d_L_law_595 ?_
  refine tp_i (show nI i + 2 = nI (i + 2) from l_k2 i) ?_
  refine va_sld hx hb hX hbl hbA hS (vp_in_nI (n := i + 2) (N := L) (by omega) (by omega)) d_L_law_596 ?_
  refine go_i (wr := [(s0, .inr (1, [.ref b1])), (b1, .inr (3, [.ref v1, .int 0, .int ml1, .int (nI xs1.length)])), (v1, .inl (gB g, cp1, .inl f1)), (q0, .inr (2, [.ref b2])), (b2, .inr (3, [.ref v2, .int 0, .int ml2, .int (nI xs2.length)])), (v2, .inl (gB g, cp2, .inl f2)), (a1, .inl (gI g, 200, .inl md)), (a2, .inl (gI g, 40, .inl td)), (a4, .inl (gI g, 8, .inl gd)), (p0, .inr (0, [.ref ha, .ref s0, .ref q0])), (ha, .inl (gI g, 8, .inl hp))]) (run_V hF (c_M_isOf g l _ h0 a1 a2 a3 a4 (nI ys.length) (nI (xs2.map nI).length) (nI (100 + N)) hd hlt (xs (nI (i + 1)).toNatClampNeg) (xs (nI (i + 2)).toNatClampNeg)) k_M_isOf j_L_80 se_M_M_isOf (va_recv hK hP (ci := 4) (q0 := 6) rfl rfl) (cw_down G hP hD hS hA [6, 9] rfl rfl) ⟨Nat.le_of_ble_eq_true rfl, Nat.le_of_ble_eq_true rfl⟩ rfl hl.1 (Nat.le_of_ble_eq_true rfl) d_L_law_597 ⟨(by first | exact Nat.le_of_ble_eq_true rfl | (dsimp only; omega) | omega), (by first | exact Nat.le_of_ble_eq_true rfl | (dsimp only; omega) | omega)⟩) hP hD hS hA [6, 9] [0, 1, 2, 3, 4, 5, 7, 8, 10, 11, 12] rfl rfl rfl (by decide) (fun r_2 w1 H locs hp1 hP hD hS => ?_)
  obtain ⟨rfl, rfl⟩ := hp1
  have hP : va_P (gD g) classes [(s0, .inr (1, [.ref b1])), (b1, .inr (3, [.ref v1, .int 0, .int ml1, .int (nI xs1.length)])), (v1, .inl (gB g, cp1, .inl f1)), (q0, .inr (2, [.ref b2])), (b2, .inr (3, [.ref v2, .int 0, .int ml2, .int (nI xs2.length)])), (v2, .inl (gB g, cp2, .inl f2)), (a1, .inl (gI g, 200, .inl md)), (a2, .inl (gI g, 40, .inl td)), (a4, .inl (gI g, 8, .inl gd)), (p0, .inr (0, [.ref ha, .ref s0, .ref q0])), (ha, .inl (gI g, 8, .inl hp)), (h0, .inr (4, [.ref a1, .int (nI ys.length), .ref a2, .int (nI (xs2.map nI).length), .ref a3, .ref a4, .int (nI (100 + N))])), (a3, .inl (gI g, 8, .inl hd))] H := hP
  have hD : va_D A [(s0, .inr (1, [.ref b1])), (b1, .inr (3, [.ref v1, .int 0, .int ml1, .int (nI xs1.length)])), (v1, .inl (gB g, cp1, .inl f1)), (q0, .inr (2, [.ref b2])), (b2, .inr (3, [.ref v2, .int 0, .int ml2, .int (nI xs2.length)])), (v2, .inl (gB g, cp2, .inl f2)), (a1, .inl (gI g, 200, .inl md)), (a2, .inl (gI g, 40, .inl td)), (a4, .inl (gI g, 8, .inl gd)), (p0, .inr (0, [.ref ha, .ref s0, .ref q0])), (ha, .inl (gI g, 8, .inl hp)), (h0, .inr (4, [.ref a1, .int (nI ys.length), .ref a2, .int (nI (xs2.map nI).length), .ref a3, .ref a4, .int (nI (100 + N))])), (a3, .inl (gI g, 8, .inl hd))] := hD
  refine lv_icmp_eq (tgt := 694) hx hb d_L_law_600 (by decide) (fun c_3 => ?_) (fun c_3 => absurd (e_isOf hR _ _) c_3)
  exact hend N _ _ _ _ _ (Nat.le_succ _) (by first | exact Nat.le_of_ble_eq_true rfl | (dsimp only; omega) | omega) (by first | exact Nat.le_of_ble_eq_true rfl | (dsimp only; omega) | omega) ⟨_, _, _, _, _, _, _, _, _, _, _, _, _, _, _, _, _, _, _, _, _, _, _, _, _, hP.sub [9, 10, 0, 1, 2, 3, 4, 5, 11, 6, 7, 12, 8] rfl, hD.sub [9, 10, 0, 1, 2, 3, 4, 5, 11, 6, 7, 12, 8] rfl rfl, ht1, ht2, h40, hm, hy, hR, hlt⟩ hS (lv_sub hl [0, 1, 2, 3] rfl)
theorem j_L_81 : Cond.methodLink R_L 81 y_P_cast ∈ tk := tk_of (List.mem_of_getElem? (i := 649) (by decide +kernel)) rfl
theorem se_P_P_cast : Cond.selects R_P y_P_cast y_P_cast ∈ tk := tk_of (List.mem_of_getElem? (i := 651) (by decide +kernel)) rfl
theorem j_L_84 : Cond.methodLink R_L 84 y_M_cast ∈ tk := tk_of (List.mem_of_getElem? (i := 893) (by decide +kernel)) rfl
theorem se_M_M_cast : Cond.selects R_M y_M_cast y_M_cast ∈ tk := tk_of (List.mem_of_getElem? (i := 895) (by decide +kernel)) rfl
set_option maxHeartbeats 4000000 in
set_option maxRecDepth 100000 in
theorem lc_15 {p : Program} {l : Launch} {e : Env} {s : State} {m : MethodId} {below : List Frame} {meth : Method} {c : Code} {g : gT} {A : Nat → Prop} {Q : State → Prop} {b L : Nat} {xs : Nat → Int32} (hL : L ≤ 2048) (hx : p.tables.exec = Jvm.exec) (hb : c.code = b_L_law) (hF : CallFix p m c b_L_law 4 s #[Value.ref b] tk R_L) (hA : ∀ q, s.heap.size ≤ q → A q) (G : Gx g A s s.heap) (hX : va_X b L xs s s.heap) (hbl : b < s.heap.size) (hbA : ¬ A b) (p0 h0 i N cells slots : Nat) (hi : i + 4 ≤ L) (hN : N ≤ 100000) (hc : cells + 70 ≤ 600000) (hs : slots + 2300 ≤ 7302250)
    (hend : ∀ (N' : Nat) (H : Heap) (locs : List Loc) (ls : Array Slot) (cells' slots' : Nat), N' ≤ N + 1 → cells' ≤ cells + 70 → slots' ≤ slots + 2300 → lI g A p0 h0 N' H → va_S A s.heap H locs → lv_has ls 4 [(3, .int (nI i)), (0, .ref b), (1, .ref p0), (2, .ref h0)] → W p l e ({ frames := 17, cells := 600000, slots := 7302250, locals := 670 }) s m #[Value.ref b] below meth c H locs cells' slots' Q (F0 m 694 ls []))
    (H : Heap) (locs : List Loc) (ls : Array Slot) (hI : lI g A p0 h0 N H) (hS : va_S A s.heap H locs) (hl : lv_has ls 4 [(3, .int (nI i)), (0, .ref b), (1, .ref p0), (2, .ref h0)]) : W p l e ({ frames := 17, cells := 600000, slots := 7302250, locals := 670 }) s m #[Value.ref b] below meth c H locs cells slots Q (F0 m 605 ls []) := by
  have hK := G.2.1
  have hN0 := G.1
  obtain ⟨ha, s0, b1, v1, q0, b2, v2, a1, a2, a3, a4, hp, cp1, ml1, f1, xs1, cp2, ml2, f2, xs2, ys, md, td, hd, gd, hP, hD, ht1, ht2, h40, hm, hy, hR, hlt⟩ := hI
  refine lv_aload_n hx hb d_L_law_605 rfl (lv_at hl 2 rfl) ?_
  refine lv_aload_n hx hb d_L_law_606 rfl (lv_at hl 1 rfl) ?_
  refine lv_iload_n hx hb d_L_law_607 rfl (lv_at hl 0 rfl) ?_
  refine lv_iconst (v := 1) hx hb d_L_law_608 (by decide) ?_
  refine lv_iadd hx hb d_L_law_609 ?_
  refine tp_i (show nI i + 1 = nI (i + 1) from l_k1 i) ?_
  refine va_sld hx hb hX hbl hbA hS (vp_in_nI (n := i + 1) (N := L) (by omega) (by omega)) d_L_law_610 ?_
  refine lv_aload_n hx hb d_L_law_611 rfl (lv_at hl 1 rfl) ?_
  refine lv_iload_n hx hb d_L_law_612 rfl (lv_at hl 0 rfl) ?_
  refine lv_iconst (v := 2) hx hb d_L_law_613 (by decide) ?_
  refine lv_iadd hx hb d_L_law_614 ?_
  refine tp_i (show nI i + 2 = nI (i + 2) from l_k2 i) ?_
  refine va_sld hx hb hX hbl hbA hS (vp_in_nI (n := i + 2) (N := L) (by omega) (by omega)) d_L_law_615 ?_
  refine go_i (wr := [(s0, .inr (1, [.ref b1])), (b1, .inr (3, [.ref v1, .int 0, .int ml1, .int (nI xs1.length)])), (v1, .inl (gB g, cp1, .inl f1)), (q0, .inr (2, [.ref b2])), (b2, .inr (3, [.ref v2, .int 0, .int ml2, .int (nI xs2.length)])), (v2, .inl (gB g, cp2, .inl f2)), (h0, .inr (4, [.ref a1, .int (nI ys.length), .ref a2, .int (nI (xs2.map nI).length), .ref a3, .ref a4, .int (nI (100 + N))])), (a1, .inl (gI g, 200, .inl md)), (a2, .inl (gI g, 40, .inl td)), (a3, .inl (gI g, 8, .inl hd)), (a4, .inl (gI g, 8, .inl gd))]) (run_V hF (c_P_cast g l _ p0 ha s0 q0 hp (xs (nI (i + 1)).toNatClampNeg) (xs (nI (i + 2)).toNatClampNeg)) k_P_cast j_L_81 se_P_P_cast (va_recv hK hP (ci := 0) (q0 := 0) rfl rfl) (cw_down G hP hD hS hA [0, 1] rfl rfl) ⟨Nat.le_of_ble_eq_true rfl, Nat.le_of_ble_eq_true rfl⟩ rfl hl.1 (Nat.le_of_ble_eq_true rfl) d_L_law_616 ⟨(by first | exact Nat.le_of_ble_eq_true rfl | (dsimp only; omega) | omega), (by first | exact Nat.le_of_ble_eq_true rfl | (dsimp only; omega) | omega)⟩) hP hD hS hA [0, 1] [2, 3, 4, 5, 6, 7, 8, 9, 10, 11, 12] rfl rfl rfl (by decide) (fun r_1 w1 H locs hp1 hP hD hS => ?_)
  obtain ⟨rfl, rfl⟩ := hp1
  have hP : va_P (gD g) classes [(s0, .inr (1, [.ref b1])), (b1, .inr (3, [.ref v1, .int 0, .int ml1, .int (nI xs1.length)])), (v1, .inl (gB g, cp1, .inl f1)), (q0, .inr (2, [.ref b2])), (b2, .inr (3, [.ref v2, .int 0, .int ml2, .int (nI xs2.length)])), (v2, .inl (gB g, cp2, .inl f2)), (h0, .inr (4, [.ref a1, .int (nI ys.length), .ref a2, .int (nI (xs2.map nI).length), .ref a3, .ref a4, .int (nI (100 + N))])), (a1, .inl (gI g, 200, .inl md)), (a2, .inl (gI g, 40, .inl td)), (a3, .inl (gI g, 8, .inl hd)), (a4, .inl (gI g, 8, .inl gd)), (p0, .inr (0, [.ref ha, .ref s0, .ref q0])), (ha, .inl (gI g, 8, .inl hp))] H := hP
  have hD : va_D A [(s0, .inr (1, [.ref b1])), (b1, .inr (3, [.ref v1, .int 0, .int ml1, .int (nI xs1.length)])), (v1, .inl (gB g, cp1, .inl f1)), (q0, .inr (2, [.ref b2])), (b2, .inr (3, [.ref v2, .int 0, .int ml2, .int (nI xs2.length)])), (v2, .inl (gB g, cp2, .inl f2)), (h0, .inr (4, [.ref a1, .int (nI ys.length), .ref a2, .int (nI (xs2.map nI).length), .ref a3, .ref a4, .int (nI (100 + N))])), (a1, .inl (gI g, 200, .inl md)), (a2, .inl (gI g, 40, .inl td)), (a3, .inl (gI g, 8, .inl hd)), (a4, .inl (gI g, 8, .inl gd)), (p0, .inr (0, [.ref ha, .ref s0, .ref q0])), (ha, .inl (gI g, 8, .inl hp))] := hD
  refine lv_aload_n hx hb d_L_law_619 rfl (lv_at hl 3 rfl) ?_
  refine lv_aload_n hx hb d_L_law_620 rfl (lv_at hl 1 rfl) ?_
  refine lv_iload_n hx hb d_L_law_621 rfl (lv_at hl 0 rfl) ?_
  refine lv_iconst (v := 1) hx hb d_L_law_622 (by decide) ?_
  refine lv_iadd hx hb d_L_law_623 ?_
  refine tp_i (show nI i + 1 = nI (i + 1) from l_k1 i) ?_
  refine va_sld hx hb hX hbl hbA hS (vp_in_nI (n := i + 1) (N := L) (by omega) (by omega)) d_L_law_624 ?_
  refine lv_aload_n hx hb d_L_law_625 rfl (lv_at hl 1 rfl) ?_
  refine lv_iload_n hx hb d_L_law_626 rfl (lv_at hl 0 rfl) ?_
  refine lv_iconst (v := 2) hx hb d_L_law_627 (by decide) ?_
  refine lv_iadd hx hb d_L_law_628 ?_
  refine tp_i (show nI i + 2 = nI (i + 2) from l_k2 i) ?_
  refine va_sld hx hb hX hbl hbA hS (vp_in_nI (n := i + 2) (N := L) (by omega) (by omega)) d_L_law_629 ?_
  refine go_i (wr := [(s0, .inr (1, [.ref b1])), (b1, .inr (3, [.ref v1, .int 0, .int ml1, .int (nI xs1.length)])), (v1, .inl (gB g, cp1, .inl f1)), (q0, .inr (2, [.ref b2])), (b2, .inr (3, [.ref v2, .int 0, .int ml2, .int (nI xs2.length)])), (v2, .inl (gB g, cp2, .inl f2)), (a1, .inl (gI g, 200, .inl md)), (a2, .inl (gI g, 40, .inl td)), (a4, .inl (gI g, 8, .inl gd)), (p0, .inr (0, [.ref ha, .ref s0, .ref q0])), (ha, .inl (gI g, 8, .inl hp))]) (run_V hF (c_M_cast g l _ h0 a1 a2 a3 a4 (nI ys.length) (nI (xs2.map nI).length) (nI (100 + N)) hd hlt (xs (nI (i + 1)).toNatClampNeg) (xs (nI (i + 2)).toNatClampNeg)) k_M_cast j_L_84 se_M_M_cast (va_recv hK hP (ci := 4) (q0 := 6) rfl rfl) (cw_down G hP hD hS hA [6, 9] rfl rfl) ⟨Nat.le_of_ble_eq_true rfl, Nat.le_of_ble_eq_true rfl⟩ rfl hl.1 (Nat.le_of_ble_eq_true rfl) d_L_law_630 ⟨(by first | exact Nat.le_of_ble_eq_true rfl | (dsimp only; omega) | omega), (by first | exact Nat.le_of_ble_eq_true rfl | (dsimp only; omega) | omega)⟩) hP hD hS hA [6, 9] [0, 1, 2, 3, 4, 5, 7, 8, 10, 11, 12] rfl rfl rfl (by decide) (fun r_2 w1 H locs hp1 hP hD hS => ?_)
  obtain ⟨rfl, rfl⟩ := hp1
  have hP : va_P (gD g) classes [(s0, .inr (1, [.ref b1])), (b1, .inr (3, [.ref v1, .int 0, .int ml1, .int (nI xs1.length)])), (v1, .inl (gB g, cp1, .inl f1)), (q0, .inr (2, [.ref b2])), (b2, .inr (3, [.ref v2, .int 0, .int ml2, .int (nI xs2.length)])), (v2, .inl (gB g, cp2, .inl f2)), (a1, .inl (gI g, 200, .inl md)), (a2, .inl (gI g, 40, .inl td)), (a4, .inl (gI g, 8, .inl gd)), (p0, .inr (0, [.ref ha, .ref s0, .ref q0])), (ha, .inl (gI g, 8, .inl hp)), (h0, .inr (4, [.ref a1, .int (nI ys.length), .ref a2, .int (nI (xs2.map nI).length), .ref a3, .ref a4, .int (nI (100 + N))])), (a3, .inl (gI g, 8, .inl hd))] H := hP
  have hD : va_D A [(s0, .inr (1, [.ref b1])), (b1, .inr (3, [.ref v1, .int 0, .int ml1, .int (nI xs1.length)])), (v1, .inl (gB g, cp1, .inl f1)), (q0, .inr (2, [.ref b2])), (b2, .inr (3, [.ref v2, .int 0, .int ml2, .int (nI xs2.length)])), (v2, .inl (gB g, cp2, .inl f2)), (a1, .inl (gI g, 200, .inl md)), (a2, .inl (gI g, 40, .inl td)), (a4, .inl (gI g, 8, .inl gd)), (p0, .inr (0, [.ref ha, .ref s0, .ref q0])), (ha, .inl (gI g, 8, .inl hp)), (h0, .inr (4, [.ref a1, .int (nI ys.length), .ref a2, .int (nI (xs2.map nI).length), .ref a3, .ref a4, .int (nI (100 + N))])), (a3, .inl (gI g, 8, .inl hd))] := hD
  refine lv_icmp_eq (tgt := 694) hx hb d_L_law_633 (by decide) (fun c_3 => ?_) (fun c_3 => absurd (e_cast hR _ _) c_3)
  exact hend N _ _ _ _ _ (Nat.le_succ _) (by first | exact Nat.le_of_ble_eq_true rfl | (dsimp only; omega) | omega) (by first | exact Nat.le_of_ble_eq_true rfl | (dsimp only; omega) | omega) ⟨_, _, _, _, _, _, _, _, _, _, _, _, _, _, _, _, _, _, _, _, _, _, _, _, _, hP.sub [9, 10, 0, 1, 2, 3, 4, 5, 11, 6, 7, 12, 8] rfl, hD.sub [9, 10, 0, 1, 2, 3, 4, 5, 11, 6, 7, 12, 8] rfl rfl, ht1, ht2, h40, hm, hy, hR, hlt⟩ hS (lv_sub hl [0, 1, 2, 3] rfl)
theorem j_L_85 : Cond.methodLink R_L 85 y_P_light ∈ tk := tk_of (List.mem_of_getElem? (i := 653) (by decide +kernel)) rfl
theorem se_P_P_light : Cond.selects R_P y_P_light y_P_light ∈ tk := tk_of (List.mem_of_getElem? (i := 655) (by decide +kernel)) rfl
theorem j_L_88 : Cond.methodLink R_L 88 y_M_light ∈ tk := tk_of (List.mem_of_getElem? (i := 897) (by decide +kernel)) rfl
theorem se_M_M_light : Cond.selects R_M y_M_light y_M_light ∈ tk := tk_of (List.mem_of_getElem? (i := 899) (by decide +kernel)) rfl
set_option maxHeartbeats 4000000 in
set_option maxRecDepth 100000 in
theorem lc_16 {p : Program} {l : Launch} {e : Env} {s : State} {m : MethodId} {below : List Frame} {meth : Method} {c : Code} {g : gT} {A : Nat → Prop} {Q : State → Prop} {b L : Nat} {xs : Nat → Int32} (hL : L ≤ 2048) (hx : p.tables.exec = Jvm.exec) (hb : c.code = b_L_law) (hF : CallFix p m c b_L_law 4 s #[Value.ref b] tk R_L) (hA : ∀ q, s.heap.size ≤ q → A q) (G : Gx g A s s.heap) (hX : va_X b L xs s s.heap) (hbl : b < s.heap.size) (hbA : ¬ A b) (p0 h0 i N cells slots : Nat) (hi : i + 4 ≤ L) (hN : N ≤ 100000) (hc : cells + 70 ≤ 600000) (hs : slots + 2300 ≤ 7302250)
    (hend : ∀ (N' : Nat) (H : Heap) (locs : List Loc) (ls : Array Slot) (cells' slots' : Nat), N' ≤ N + 1 → cells' ≤ cells + 70 → slots' ≤ slots + 2300 → lI g A p0 h0 N' H → va_S A s.heap H locs → lv_has ls 4 [(3, .int (nI i)), (0, .ref b), (1, .ref p0), (2, .ref h0)] → W p l e ({ frames := 17, cells := 600000, slots := 7302250, locals := 670 }) s m #[Value.ref b] below meth c H locs cells' slots' Q (F0 m 694 ls []))
    (H : Heap) (locs : List Loc) (ls : Array Slot) (hI : lI g A p0 h0 N H) (hS : va_S A s.heap H locs) (hl : lv_has ls 4 [(3, .int (nI i)), (0, .ref b), (1, .ref p0), (2, .ref h0)]) : W p l e ({ frames := 17, cells := 600000, slots := 7302250, locals := 670 }) s m #[Value.ref b] below meth c H locs cells slots Q (F0 m 638 ls []) := by
  have hK := G.2.1
  have hN0 := G.1
  obtain ⟨ha, s0, b1, v1, q0, b2, v2, a1, a2, a3, a4, hp, cp1, ml1, f1, xs1, cp2, ml2, f2, xs2, ys, md, td, hd, gd, hP, hD, ht1, ht2, h40, hm, hy, hR, hlt⟩ := hI
  refine lv_aload_n hx hb d_L_law_638 rfl (lv_at hl 2 rfl) ?_
  refine lv_aload_n hx hb d_L_law_639 rfl (lv_at hl 1 rfl) ?_
  refine lv_iload_n hx hb d_L_law_640 rfl (lv_at hl 0 rfl) ?_
  refine lv_iconst (v := 1) hx hb d_L_law_641 (by decide) ?_
  refine lv_iadd hx hb d_L_law_642 ?_
  refine tp_i (show nI i + 1 = nI (i + 1) from l_k1 i) ?_
  refine va_sld hx hb hX hbl hbA hS (vp_in_nI (n := i + 1) (N := L) (by omega) (by omega)) d_L_law_643 ?_
  refine go_i (wr := [(s0, .inr (1, [.ref b1])), (b1, .inr (3, [.ref v1, .int 0, .int ml1, .int (nI xs1.length)])), (v1, .inl (gB g, cp1, .inl f1)), (q0, .inr (2, [.ref b2])), (b2, .inr (3, [.ref v2, .int 0, .int ml2, .int (nI xs2.length)])), (v2, .inl (gB g, cp2, .inl f2)), (h0, .inr (4, [.ref a1, .int (nI ys.length), .ref a2, .int (nI (xs2.map nI).length), .ref a3, .ref a4, .int (nI (100 + N))])), (a1, .inl (gI g, 200, .inl md)), (a2, .inl (gI g, 40, .inl td)), (a3, .inl (gI g, 8, .inl hd)), (a4, .inl (gI g, 8, .inl gd))]) (run_V hF (c_P_light g l _ p0 ha s0 q0 hp (xs (nI (i + 1)).toNatClampNeg)) k_P_light j_L_85 se_P_P_light (va_recv hK hP (ci := 0) (q0 := 0) rfl rfl) (cw_down G hP hD hS hA [0, 1] rfl rfl) ⟨Nat.le_of_ble_eq_true rfl, Nat.le_of_ble_eq_true rfl⟩ rfl hl.1 (Nat.le_of_ble_eq_true rfl) d_L_law_644 ⟨(by first | exact Nat.le_of_ble_eq_true rfl | (dsimp only; omega) | omega), (by first | exact Nat.le_of_ble_eq_true rfl | (dsimp only; omega) | omega)⟩) hP hD hS hA [0, 1] [2, 3, 4, 5, 6, 7, 8, 9, 10, 11, 12] rfl rfl rfl (by decide) (fun r_1 w1 H locs hp1 hP hD hS => ?_)
  obtain ⟨rfl, rfl⟩ := hp1
  have hP : va_P (gD g) classes [(s0, .inr (1, [.ref b1])), (b1, .inr (3, [.ref v1, .int 0, .int ml1, .int (nI xs1.length)])), (v1, .inl (gB g, cp1, .inl f1)), (q0, .inr (2, [.ref b2])), (b2, .inr (3, [.ref v2, .int 0, .int ml2, .int (nI xs2.length)])), (v2, .inl (gB g, cp2, .inl f2)), (h0, .inr (4, [.ref a1, .int (nI ys.length), .ref a2, .int (nI (xs2.map nI).length), .ref a3, .ref a4, .int (nI (100 + N))])), (a1, .inl (gI g, 200, .inl md)), (a2, .inl (gI g, 40, .inl td)), (a3, .inl (gI g, 8, .inl hd)), (a4, .inl (gI g, 8, .inl gd)), (p0, .inr (0, [.ref ha, .ref s0, .ref q0])), (ha, .inl (gI g, 8, .inl hp))] H := hP
  have hD : va_D A [(s0, .inr (1, [.ref b1])), (b1, .inr (3, [.ref v1, .int 0, .int ml1, .int (nI xs1.length)])), (v1, .inl (gB g, cp1, .inl f1)), (q0, .inr (2, [.ref b2])), (b2, .inr (3, [.ref v2, .int 0, .int ml2, .int (nI xs2.length)])), (v2, .inl (gB g, cp2, .inl f2)), (h0, .inr (4, [.ref a1, .int (nI ys.length), .ref a2, .int (nI (xs2.map nI).length), .ref a3, .ref a4, .int (nI (100 + N))])), (a1, .inl (gI g, 200, .inl md)), (a2, .inl (gI g, 40, .inl td)), (a3, .inl (gI g, 8, .inl hd)), (a4, .inl (gI g, 8, .inl gd)), (p0, .inr (0, [.ref ha, .ref s0, .ref q0])), (ha, .inl (gI g, 8, .inl hp))] := hD
  refine lv_aload_n hx hb d_L_law_647 rfl (lv_at hl 3 rfl) ?_
  refine lv_aload_n hx hb d_L_law_648 rfl (lv_at hl 1 rfl) ?_
  refine lv_iload_n hx hb d_L_law_649 rfl (lv_at hl 0 rfl) ?_
  refine lv_iconst (v := 1) hx hb d_L_law_650 (by decide) ?_
  refine lv_iadd hx hb d_L_law_651 ?_
  refine tp_i (show nI i + 1 = nI (i + 1) from l_k1 i) ?_
  refine va_sld hx hb hX hbl hbA hS (vp_in_nI (n := i + 1) (N := L) (by omega) (by omega)) d_L_law_652 ?_
  refine go_i (wr := [(s0, .inr (1, [.ref b1])), (b1, .inr (3, [.ref v1, .int 0, .int ml1, .int (nI xs1.length)])), (v1, .inl (gB g, cp1, .inl f1)), (q0, .inr (2, [.ref b2])), (b2, .inr (3, [.ref v2, .int 0, .int ml2, .int (nI xs2.length)])), (v2, .inl (gB g, cp2, .inl f2)), (a1, .inl (gI g, 200, .inl md)), (a2, .inl (gI g, 40, .inl td)), (a4, .inl (gI g, 8, .inl gd)), (p0, .inr (0, [.ref ha, .ref s0, .ref q0])), (ha, .inl (gI g, 8, .inl hp))]) (run_V hF (c_M_light g l _ h0 a1 a2 a3 a4 (nI ys.length) (nI (xs2.map nI).length) (nI (100 + N)) hd (xs (nI (i + 1)).toNatClampNeg)) k_M_light j_L_88 se_M_M_light (va_recv hK hP (ci := 4) (q0 := 6) rfl rfl) (cw_down G hP hD hS hA [6, 9] rfl rfl) ⟨Nat.le_of_ble_eq_true rfl, Nat.le_of_ble_eq_true rfl⟩ rfl hl.1 (Nat.le_of_ble_eq_true rfl) d_L_law_653 ⟨(by first | exact Nat.le_of_ble_eq_true rfl | (dsimp only; omega) | omega), (by first | exact Nat.le_of_ble_eq_true rfl | (dsimp only; omega) | omega)⟩) hP hD hS hA [6, 9] [0, 1, 2, 3, 4, 5, 7, 8, 10, 11, 12] rfl rfl rfl (by decide) (fun r_2 w1 H locs hp1 hP hD hS => ?_)
  obtain ⟨rfl, rfl⟩ := hp1
  have hP : va_P (gD g) classes [(s0, .inr (1, [.ref b1])), (b1, .inr (3, [.ref v1, .int 0, .int ml1, .int (nI xs1.length)])), (v1, .inl (gB g, cp1, .inl f1)), (q0, .inr (2, [.ref b2])), (b2, .inr (3, [.ref v2, .int 0, .int ml2, .int (nI xs2.length)])), (v2, .inl (gB g, cp2, .inl f2)), (a1, .inl (gI g, 200, .inl md)), (a2, .inl (gI g, 40, .inl td)), (a4, .inl (gI g, 8, .inl gd)), (p0, .inr (0, [.ref ha, .ref s0, .ref q0])), (ha, .inl (gI g, 8, .inl hp)), (h0, .inr (4, [.ref a1, .int (nI ys.length), .ref a2, .int (nI (xs2.map nI).length), .ref a3, .ref a4, .int (nI (100 + N))])), (a3, .inl (gI g, 8, .inl hd))] H := hP
  have hD : va_D A [(s0, .inr (1, [.ref b1])), (b1, .inr (3, [.ref v1, .int 0, .int ml1, .int (nI xs1.length)])), (v1, .inl (gB g, cp1, .inl f1)), (q0, .inr (2, [.ref b2])), (b2, .inr (3, [.ref v2, .int 0, .int ml2, .int (nI xs2.length)])), (v2, .inl (gB g, cp2, .inl f2)), (a1, .inl (gI g, 200, .inl md)), (a2, .inl (gI g, 40, .inl td)), (a4, .inl (gI g, 8, .inl gd)), (p0, .inr (0, [.ref ha, .ref s0, .ref q0])), (ha, .inl (gI g, 8, .inl hp)), (h0, .inr (4, [.ref a1, .int (nI ys.length), .ref a2, .int (nI (xs2.map nI).length), .ref a3, .ref a4, .int (nI (100 + N))])), (a3, .inl (gI g, 8, .inl hd))] := hD
  refine lv_icmp_eq (tgt := 694) hx hb d_L_law_656 (by decide) (fun c_3 => ?_) (fun c_3 => absurd (e_light hR _) c_3)
  exact hend N _ _ _ _ _ (Nat.le_succ _) (by first | exact Nat.le_of_ble_eq_true rfl | (dsimp only; omega) | omega) (by first | exact Nat.le_of_ble_eq_true rfl | (dsimp only; omega) | omega) ⟨_, _, _, _, _, _, _, _, _, _, _, _, _, _, _, _, _, _, _, _, _, _, _, _, _, hP.sub [9, 10, 0, 1, 2, 3, 4, 5, 11, 6, 7, 12, 8] rfl, hD.sub [9, 10, 0, 1, 2, 3, 4, 5, 11, 6, 7, 12, 8] rfl rfl, ht1, ht2, h40, hm, hy, hR, hlt⟩ hS (lv_sub hl [0, 1, 2, 3] rfl)
theorem j_L_89 : Cond.methodLink R_L 89 y_P_alike ∈ tk := tk_of (List.mem_of_getElem? (i := 657) (by decide +kernel)) rfl
theorem se_P_P_alike : Cond.selects R_P y_P_alike y_P_alike ∈ tk := tk_of (List.mem_of_getElem? (i := 659) (by decide +kernel)) rfl
theorem j_L_92 : Cond.methodLink R_L 92 y_M_alike ∈ tk := tk_of (List.mem_of_getElem? (i := 901) (by decide +kernel)) rfl
theorem se_M_M_alike : Cond.selects R_M y_M_alike y_M_alike ∈ tk := tk_of (List.mem_of_getElem? (i := 903) (by decide +kernel)) rfl
set_option maxHeartbeats 4000000 in
set_option maxRecDepth 100000 in
theorem lc_17 {p : Program} {l : Launch} {e : Env} {s : State} {m : MethodId} {below : List Frame} {meth : Method} {c : Code} {g : gT} {A : Nat → Prop} {Q : State → Prop} {b L : Nat} {xs : Nat → Int32} (hL : L ≤ 2048) (hx : p.tables.exec = Jvm.exec) (hb : c.code = b_L_law) (hF : CallFix p m c b_L_law 4 s #[Value.ref b] tk R_L) (hA : ∀ q, s.heap.size ≤ q → A q) (G : Gx g A s s.heap) (hX : va_X b L xs s s.heap) (hbl : b < s.heap.size) (hbA : ¬ A b) (p0 h0 i N cells slots : Nat) (hi : i + 4 ≤ L) (hN : N ≤ 100000) (hc : cells + 70 ≤ 600000) (hs : slots + 2300 ≤ 7302250)
    (hend : ∀ (N' : Nat) (H : Heap) (locs : List Loc) (ls : Array Slot) (cells' slots' : Nat), N' ≤ N + 1 → cells' ≤ cells + 70 → slots' ≤ slots + 2300 → lI g A p0 h0 N' H → va_S A s.heap H locs → lv_has ls 4 [(3, .int (nI i)), (0, .ref b), (1, .ref p0), (2, .ref h0)] → W p l e ({ frames := 17, cells := 600000, slots := 7302250, locals := 670 }) s m #[Value.ref b] below meth c H locs cells' slots' Q (F0 m 694 ls []))
    (H : Heap) (locs : List Loc) (ls : Array Slot) (hI : lI g A p0 h0 N H) (hS : va_S A s.heap H locs) (hl : lv_has ls 4 [(3, .int (nI i)), (0, .ref b), (1, .ref p0), (2, .ref h0)]) : W p l e ({ frames := 17, cells := 600000, slots := 7302250, locals := 670 }) s m #[Value.ref b] below meth c H locs cells slots Q (F0 m 661 ls []) := by
  have hK := G.2.1
  have hN0 := G.1
  obtain ⟨ha, s0, b1, v1, q0, b2, v2, a1, a2, a3, a4, hp, cp1, ml1, f1, xs1, cp2, ml2, f2, xs2, ys, md, td, hd, gd, hP, hD, ht1, ht2, h40, hm, hy, hR, hlt⟩ := hI
  refine lv_aload_n hx hb d_L_law_661 rfl (lv_at hl 2 rfl) ?_
  refine lv_aload_n hx hb d_L_law_662 rfl (lv_at hl 1 rfl) ?_
  refine lv_iload_n hx hb d_L_law_663 rfl (lv_at hl 0 rfl) ?_
  refine lv_iconst (v := 1) hx hb d_L_law_664 (by decide) ?_
  refine lv_iadd hx hb d_L_law_665 ?_
  refine tp_i (show nI i + 1 = nI (i + 1) from l_k1 i) ?_
  refine va_sld hx hb hX hbl hbA hS (vp_in_nI (n := i + 1) (N := L) (by omega) (by omega)) d_L_law_666 ?_
  refine lv_aload_n hx hb d_L_law_667 rfl (lv_at hl 1 rfl) ?_
  refine lv_iload_n hx hb d_L_law_668 rfl (lv_at hl 0 rfl) ?_
  refine lv_iconst (v := 2) hx hb d_L_law_669 (by decide) ?_
  refine lv_iadd hx hb d_L_law_670 ?_
  refine tp_i (show nI i + 2 = nI (i + 2) from l_k2 i) ?_
  refine va_sld hx hb hX hbl hbA hS (vp_in_nI (n := i + 2) (N := L) (by omega) (by omega)) d_L_law_671 ?_
  refine go_i (wr := [(s0, .inr (1, [.ref b1])), (b1, .inr (3, [.ref v1, .int 0, .int ml1, .int (nI xs1.length)])), (v1, .inl (gB g, cp1, .inl f1)), (q0, .inr (2, [.ref b2])), (b2, .inr (3, [.ref v2, .int 0, .int ml2, .int (nI xs2.length)])), (v2, .inl (gB g, cp2, .inl f2)), (h0, .inr (4, [.ref a1, .int (nI ys.length), .ref a2, .int (nI (xs2.map nI).length), .ref a3, .ref a4, .int (nI (100 + N))])), (a1, .inl (gI g, 200, .inl md)), (a2, .inl (gI g, 40, .inl td)), (a3, .inl (gI g, 8, .inl hd)), (a4, .inl (gI g, 8, .inl gd))]) (run_V hF (c_P_alike g l _ p0 ha s0 q0 hp (xs (nI (i + 1)).toNatClampNeg) (xs (nI (i + 2)).toNatClampNeg)) k_P_alike j_L_89 se_P_P_alike (va_recv hK hP (ci := 0) (q0 := 0) rfl rfl) (cw_down G hP hD hS hA [0, 1] rfl rfl) ⟨Nat.le_of_ble_eq_true rfl, Nat.le_of_ble_eq_true rfl⟩ rfl hl.1 (Nat.le_of_ble_eq_true rfl) d_L_law_672 ⟨(by first | exact Nat.le_of_ble_eq_true rfl | (dsimp only; omega) | omega), (by first | exact Nat.le_of_ble_eq_true rfl | (dsimp only; omega) | omega)⟩) hP hD hS hA [0, 1] [2, 3, 4, 5, 6, 7, 8, 9, 10, 11, 12] rfl rfl rfl (by decide) (fun r_1 w1 H locs hp1 hP hD hS => ?_)
  obtain ⟨rfl, rfl⟩ := hp1
  have hP : va_P (gD g) classes [(s0, .inr (1, [.ref b1])), (b1, .inr (3, [.ref v1, .int 0, .int ml1, .int (nI xs1.length)])), (v1, .inl (gB g, cp1, .inl f1)), (q0, .inr (2, [.ref b2])), (b2, .inr (3, [.ref v2, .int 0, .int ml2, .int (nI xs2.length)])), (v2, .inl (gB g, cp2, .inl f2)), (h0, .inr (4, [.ref a1, .int (nI ys.length), .ref a2, .int (nI (xs2.map nI).length), .ref a3, .ref a4, .int (nI (100 + N))])), (a1, .inl (gI g, 200, .inl md)), (a2, .inl (gI g, 40, .inl td)), (a3, .inl (gI g, 8, .inl hd)), (a4, .inl (gI g, 8, .inl gd)), (p0, .inr (0, [.ref ha, .ref s0, .ref q0])), (ha, .inl (gI g, 8, .inl hp))] H := hP
  have hD : va_D A [(s0, .inr (1, [.ref b1])), (b1, .inr (3, [.ref v1, .int 0, .int ml1, .int (nI xs1.length)])), (v1, .inl (gB g, cp1, .inl f1)), (q0, .inr (2, [.ref b2])), (b2, .inr (3, [.ref v2, .int 0, .int ml2, .int (nI xs2.length)])), (v2, .inl (gB g, cp2, .inl f2)), (h0, .inr (4, [.ref a1, .int (nI ys.length), .ref a2, .int (nI (xs2.map nI).length), .ref a3, .ref a4, .int (nI (100 + N))])), (a1, .inl (gI g, 200, .inl md)), (a2, .inl (gI g, 40, .inl td)), (a3, .inl (gI g, 8, .inl hd)), (a4, .inl (gI g, 8, .inl gd)), (p0, .inr (0, [.ref ha, .ref s0, .ref q0])), (ha, .inl (gI g, 8, .inl hp))] := hD
  refine lv_aload_n hx hb d_L_law_675 rfl (lv_at hl 3 rfl) ?_
  refine lv_aload_n hx hb d_L_law_676 rfl (lv_at hl 1 rfl) ?_
  refine lv_iload_n hx hb d_L_law_677 rfl (lv_at hl 0 rfl) ?_
  refine lv_iconst (v := 1) hx hb d_L_law_678 (by decide) ?_
  refine lv_iadd hx hb d_L_law_679 ?_
  refine tp_i (show nI i + 1 = nI (i + 1) from l_k1 i) ?_
  refine va_sld hx hb hX hbl hbA hS (vp_in_nI (n := i + 1) (N := L) (by omega) (by omega)) d_L_law_680 ?_
  refine lv_aload_n hx hb d_L_law_681 rfl (lv_at hl 1 rfl) ?_
  refine lv_iload_n hx hb d_L_law_682 rfl (lv_at hl 0 rfl) ?_
  refine lv_iconst (v := 2) hx hb d_L_law_683 (by decide) ?_
  refine lv_iadd hx hb d_L_law_684 ?_
  refine tp_i (show nI i + 2 = nI (i + 2) from l_k2 i) ?_
  refine va_sld hx hb hX hbl hbA hS (vp_in_nI (n := i + 2) (N := L) (by omega) (by omega)) d_L_law_685 ?_
  refine go_i (wr := [(s0, .inr (1, [.ref b1])), (b1, .inr (3, [.ref v1, .int 0, .int ml1, .int (nI xs1.length)])), (v1, .inl (gB g, cp1, .inl f1)), (q0, .inr (2, [.ref b2])), (b2, .inr (3, [.ref v2, .int 0, .int ml2, .int (nI xs2.length)])), (v2, .inl (gB g, cp2, .inl f2)), (a1, .inl (gI g, 200, .inl md)), (a2, .inl (gI g, 40, .inl td)), (p0, .inr (0, [.ref ha, .ref s0, .ref q0])), (ha, .inl (gI g, 8, .inl hp))]) (run_V hF (c_M_alike g l _ h0 a1 a2 a3 a4 (nI ys.length) (nI (xs2.map nI).length) (nI (100 + N)) hd gd (xs (nI (i + 1)).toNatClampNeg) (xs (nI (i + 2)).toNatClampNeg)) k_M_alike j_L_92 se_M_M_alike (va_recv hK hP (ci := 4) (q0 := 6) rfl rfl) (cw_down G hP hD hS hA [6, 9, 10] rfl rfl) ⟨Nat.le_of_ble_eq_true rfl, Nat.le_of_ble_eq_true rfl⟩ rfl hl.1 (Nat.le_of_ble_eq_true rfl) d_L_law_686 ⟨(by first | exact Nat.le_of_ble_eq_true rfl | (dsimp only; omega) | omega), (by first | exact Nat.le_of_ble_eq_true rfl | (dsimp only; omega) | omega)⟩) hP hD hS hA [6, 9, 10] [0, 1, 2, 3, 4, 5, 7, 8, 11, 12] rfl rfl rfl (by decide) (fun r_2 w1 H locs hp1 hP hD hS => ?_)
  obtain ⟨rfl, rfl⟩ := hp1
  have hP : va_P (gD g) classes [(s0, .inr (1, [.ref b1])), (b1, .inr (3, [.ref v1, .int 0, .int ml1, .int (nI xs1.length)])), (v1, .inl (gB g, cp1, .inl f1)), (q0, .inr (2, [.ref b2])), (b2, .inr (3, [.ref v2, .int 0, .int ml2, .int (nI xs2.length)])), (v2, .inl (gB g, cp2, .inl f2)), (a1, .inl (gI g, 200, .inl md)), (a2, .inl (gI g, 40, .inl td)), (p0, .inr (0, [.ref ha, .ref s0, .ref q0])), (ha, .inl (gI g, 8, .inl hp)), (h0, .inr (4, [.ref a1, .int (nI ys.length), .ref a2, .int (nI (xs2.map nI).length), .ref a3, .ref a4, .int (nI (100 + N))])), (a3, .inl (gI g, 8, .inl hd)), (a4, .inl (gI g, 8, .inl gd))] H := hP
  have hD : va_D A [(s0, .inr (1, [.ref b1])), (b1, .inr (3, [.ref v1, .int 0, .int ml1, .int (nI xs1.length)])), (v1, .inl (gB g, cp1, .inl f1)), (q0, .inr (2, [.ref b2])), (b2, .inr (3, [.ref v2, .int 0, .int ml2, .int (nI xs2.length)])), (v2, .inl (gB g, cp2, .inl f2)), (a1, .inl (gI g, 200, .inl md)), (a2, .inl (gI g, 40, .inl td)), (p0, .inr (0, [.ref ha, .ref s0, .ref q0])), (ha, .inl (gI g, 8, .inl hp)), (h0, .inr (4, [.ref a1, .int (nI ys.length), .ref a2, .int (nI (xs2.map nI).length), .ref a3, .ref a4, .int (nI (100 + N))])), (a3, .inl (gI g, 8, .inl hd)), (a4, .inl (gI g, 8, .inl gd))] := hD
  refine lv_icmp_eq (tgt := 694) hx hb d_L_law_689 (by decide) (fun c_3 => ?_) (fun c_3 => absurd (e_alike hR _ _) c_3)
  exact hend N _ _ _ _ _ (Nat.le_succ _) (by first | exact Nat.le_of_ble_eq_true rfl | (dsimp only; omega) | omega) (by first | exact Nat.le_of_ble_eq_true rfl | (dsimp only; omega) | omega) ⟨_, _, _, _, _, _, _, _, _, _, _, _, _, _, _, _, _, _, _, _, _, _, _, _, _, hP.sub [8, 9, 0, 1, 2, 3, 4, 5, 10, 6, 7, 11, 12] rfl, hD.sub [8, 9, 0, 1, 2, 3, 4, 5, 10, 6, 7, 11, 12] rfl rfl, ht1, ht2, h40, hm, hy, hR, hlt⟩ hS (lv_sub hl [0, 1, 2, 3] rfl)
