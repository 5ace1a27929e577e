def zg_M_code (ys : List Int32) (d n : Nat) : Nat → Int32 → Int32
  | 0, t => t
  | k + 1, t => if (nI (n - d)) = 1 then (if (ys.getD d 0) = (f_M_sign (nI (8 - (k + 1)))) then zg_M_code ys d n k (nI (8 - (k + 1))) else zg_M_code ys d n k t) else t
set_option maxRecDepth 100000 in
theorem k_M_search : ck y_M_search b_M_search 7 (some .int) 2 (.instanceMethod y_M_search) := ⟨tk_of (List.mem_of_getElem? (i := 868) rfl) rfl, tk_of (List.mem_of_getElem? (i := 867) (by decide +kernel)) rfl, tk_of (List.mem_of_getElem? (i := 43) (by decide +kernel)) rfl, by decide +kernel⟩
def f_M_elem (ys : List Int32) (d n : Nat) : Int32 := (if (nI d) = 0 then 1 else (if (nI (n - d)) ≤ 2 then 0 else (if (ys.getD d 0) = 76 then (if (ys.getD (n - 1) 0) = 59 then 1 else 0) else 0)))
def f_M_search (ys : List Int32) (d n : Nat) : Int32 := (if (f_M_elem ys d n) = 0 then (if (nI (n - d)) ≤ 1 then (if 0 ≤ (zg_M_code ys d n 8 (-1)) then (if (nI d) ≤ 2 then ((40 * (nI d)) + (zg_M_code ys d n 8 (-1))) else (-3)) else (-4)) else (-1)) else (if (nI d) = 0 then (if (zg_M_named ys 0 n 25) < 0 then (if (f_M_nested ys 0 n) = 0 then (-1) else (if 0 ≤ (zg_M_named ys 0 n 25) then (if (nI d) ≤ 2 then ((40 * (nI d)) + (zg_M_named ys 0 n 25)) else (-3)) else (-4))) else (if (zg_M_named ys 0 n 25) ≤ 11 then (if 9 ≤ (zg_M_named ys 0 n 25) then (if 0 ≤ (zg_M_named ys 0 n 25) then (if (nI d) ≤ 2 then ((40 * (nI d)) + (zg_M_named ys 0 n 25)) else (-3)) else (-4)) else (-4)) else (if (f_M_nested ys 0 n) = 0 then (-1) else (if 9 ≤ (zg_M_named ys 0 n 25) then (if 0 ≤ (zg_M_named ys 0 n 25) then (if (nI d) ≤ 2 then ((40 * (nI d)) + (zg_M_named ys 0 n 25)) else (-3)) else (-4)) else (-4))))) else (if (zg_M_named ys (d + 1) (n - 1) 25) < 0 then (if (f_M_nested ys (d + 1) (n - 1)) = 0 then (-1) else (if 0 ≤ (zg_M_named ys (d + 1) (n - 1) 25) then (if (nI d) ≤ 2 then ((40 * (nI d)) + (zg_M_named ys (d + 1) (n - 1) 25)) else (-3)) else (-4))) else (if (zg_M_named ys (d + 1) (n - 1) 25) ≤ 11 then (if 9 ≤ (zg_M_named ys (d + 1) (n - 1) 25) then (if 0 ≤ (zg_M_named ys (d + 1) (n - 1) 25) then (if (nI d) ≤ 2 then ((40 * (nI d)) + (zg_M_named ys (d + 1) (n - 1) 25)) else (-3)) else (-4)) else (-4)) else (if (f_M_nested ys (d + 1) (n - 1)) = 0 then (-1) else (if 9 ≤ (zg_M_named ys (d + 1) (n - 1) 25) then (if 0 ≤ (zg_M_named ys (d + 1) (n - 1) 25) then (if (nI d) ≤ 2 then ((40 * (nI d)) + (zg_M_named ys (d + 1) (n - 1) 25)) else (-3)) else (-4)) else (-4)))))))
theorem j_M_199 : Cond.methodLink R_M 199 y_M_named ∈ tk := tk_of (List.mem_of_getElem? (i := 869) (by decide +kernel)) rfl
theorem se_M_M_named : Cond.selects R_M y_M_named y_M_named ∈ tk := tk_of (List.mem_of_getElem? (i := 32) (by decide +kernel)) rfl
theorem j_M_203 : Cond.methodLink R_M 203 y_M_nested ∈ tk := tk_of (List.mem_of_getElem? (i := 877) (by decide +kernel)) rfl
theorem se_M_M_nested : Cond.selects R_M y_M_nested y_M_nested ∈ tk := tk_of (List.mem_of_getElem? (i := 34) (by decide +kernel)) rfl
theorem el_gt {ys : List Int32} {d n : Nat} (hn : n ≤ 1000) (h : ¬ f_M_elem ys d n = 0) (h0 : ¬ nI d = 0) : 2 < n - d := by
  rcases Nat.lt_or_ge 2 (n - d) with z | z
  · exact z
  · exact absurd (by rw [f_M_elem, if_neg h0, if_pos (show (nI (n - d)) ≤ 2 from nI_le (b := 2) z (by decide))]) h
set_option maxHeartbeats 4000000 in
set_option maxRecDepth 100000 in
theorem lp_M_search {p : Program} {l : Launch} {e : Env} {s : State} {m : MethodId} {args : Array Value} {below : List Frame} {meth : Method} {c : Code} {g : gT} {A : Nat → Prop} {Q : State → Prop} (h0 a1 a2 a3 a4 : Nat) (n2 n3 : Int32) (xs : List Int32) (md : Nat → Int32) (hm : mt xs md) (ys : List Int32) (td : Nat → Int32) (hy : ty ys td) (d n : Nat) (hdn : d ≤ n) (hn : n ≤ ys.length) (hx : p.tables.exec = Jvm.exec) (hb : c.code = b_M_search) (hF : CallFix p m c b_M_search 7 s args tk R_M) (hA : ∀ q, s.heap.size ≤ q → A q) (G : Gx g A s s.heap) (E : Int32)
    (hend : ∀ (cells slots : Nat), cells ≤ 8 → slots ≤ 72 → ∀ (H : Heap) (locs : List Loc) (ls : Array Slot), va_P (gD g) classes [(h0, .inr (4, [.ref a1, .int (nI xs.length), .ref a2, .int n2, .ref a3, .ref a4, .int n3])), (a1, .inl (gI g, 200, .inl md)), (a2, .inl (gI g, 40, .inl td))] H → va_D A [(h0, .inr (4, [.ref a1, .int (nI xs.length), .ref a2, .int n2, .ref a3, .ref a4, .int n3])), (a1, .inl (gI g, 200, .inl md)), (a2, .inl (gI g, 40, .inl td))] → va_S A s.heap H locs → lv_has ls 7 [(3, .int E), (0, .ref h0), (1, .int (nI d)), (2, .int (nI n))] → W p l e ({ frames := 5, cells := 8, slots := 72, locals := 110 }) s m args below meth c H locs cells slots Q (F0 m 171 ls [])) :
    ∀ (k : Nat) (tt : Int32) (cells slots : Nat) (x : Int32), cells + k ≤ 8 → slots + 9 * k ≤ 72 → k ≤ 8 → x = nI (8 - k) → zg_M_code ys d n k tt = E → ∀ (H : Heap) (locs : List Loc), va_P (gD g) classes [(h0, .inr (4, [.ref a1, .int (nI xs.length), .ref a2, .int n2, .ref a3, .ref a4, .int n3])), (a1, .inl (gI g, 200, .inl md)), (a2, .inl (gI g, 40, .inl td))] H → va_D A [(h0, .inr (4, [.ref a1, .int (nI xs.length), .ref a2, .int n2, .ref a3, .ref a4, .int n3])), (a1, .inl (gI g, 200, .inl md)), (a2, .inl (gI g, 40, .inl td))] → va_S A s.heap H locs → ∀ ls : Array Slot, lv_has ls 7 [(5, .int x), (3, .int tt), (0, .ref h0), (1, .int (nI d)), (2, .int (nI n))] → W p l e ({ frames := 5, cells := 8, slots := 72, locals := 110 }) s m args below meth c H locs cells slots Q (F0 m 134 ls []) := by
  have hK := G.2.1
  have hN := G.1
  have hy1 := hy.1
  have hm1 := hm.1
  intro k
  induction k with
  | zero =>
    intro tt cells slots x hc1 hc2 hd ex hp1 H locs hP hD hS ls hl
    have hle : nI 8 ≤ x := by rw [ex]; exact nI_le (by omega) (by omega)
    refine lv_iload hx hb d_M_search_134 (lv_at hl 0 rfl) ?_
    refine lv_bipush (v := 8) hx hb d_M_search_136 (by decide) ?_
    refine lv_icmp_ge (tgt := 171) hx hb d_M_search_138 (by decide) (fun c_1 => ?_) (fun c_1 => absurd hle c_1)
    have hp1 : tt = E := hp1
    subst hp1
    exact hend _ _ (by omega) (by omega) _ _ _ (hP.sub (ws' := [(h0, .inr (4, [.ref a1, .int (nI xs.length), .ref a2, .int n2, .ref a3, .ref a4, .int n3])), (a1, .inl (gI g, 200, .inl md)), (a2, .inl (gI g, 40, .inl td))]) [0, 1, 2] rfl) (hD.sub (ws' := [(h0, .inr (4, [.ref a1, .int (nI xs.length), .ref a2, .int n2, .ref a3, .ref a4, .int n3])), (a1, .inl (gI g, 200, .inl md)), (a2, .inl (gI g, 40, .inl td))]) [0, 1, 2] rfl rfl) hS (lv_sub hl [1, 2, 3, 4] rfl)
  | succ k ih =>
    intro tt cells slots x hc1 hc2 hd ex hp1 H locs hP hD hS ls hl
    have hlt : ¬ nI 8 ≤ x := by rw [ex]; exact nI_ge (by omega) (by omega)
    refine lv_iload hx hb d_M_search_134 (lv_at hl 0 rfl) ?_
    refine lv_bipush (v := 8) hx hb d_M_search_136 (by decide) ?_
    refine lv_icmp_ge (tgt := 171) hx hb d_M_search_138 (by decide) (fun c_1 => absurd c_1 hlt) (fun c_1 => ?_)
    refine lv_iload_n hx hb d_M_search_141 rfl (lv_at hl 4 rfl) ?_
    refine lv_iload_n hx hb d_M_search_142 rfl (lv_at hl 3 rfl) ?_
    refine lv_isub hx hb d_M_search_143 ?_
    refine tp_i (show nI n - nI d = nI (n - d) from pk_sub hdn) ?_
    refine lv_iconst (v := 1) hx hb d_M_search_144 (by decide) ?_
    refine lv_icmp_ne (tgt := 171) hx hb d_M_search_145 (by decide) (fun c_2 => ?_) (fun c_2 => ?_)
    · skip
      rw [zg_M_code, if_neg c_2] at hp1
      subst hp1
      exact hend _ _ (by omega) (by omega) _ _ _ (hP.sub (ws' := [(h0, .inr (4, [.ref a1, .int (nI xs.length), .ref a2, .int n2, .ref a3, .ref a4, .int n3])), (a1, .inl (gI g, 200, .inl md)), (a2, .inl (gI g, 40, .inl td))]) [0, 1, 2] rfl) (hD.sub (ws' := [(h0, .inr (4, [.ref a1, .int (nI xs.length), .ref a2, .int n2, .ref a3, .ref a4, .int n3])), (a1, .inl (gI g, 200, .inl md)), (a2, .inl (gI g, 40, .inl td))]) [0, 1, 2] rfl rfl) hS (lv_sub hl [1, 2, 3, 4] rfl)
    · skip
      refine lv_aload_n hx hb d_M_search_148 rfl (lv_at hl 2 rfl) ?_
      refine va_get (D := gD g) (ci := 4) (v := .ref a2) (C := R_M) (T := F_M) (N := 7) hx hb hF.2.2.2.2 in_M hF.2.2.2.1 hK hP 0 rfl rfl 2 (by decide) (hF.2.2.2.2 _ fl_M_13) (fun _ h9 => h9) rfl d_M_search_149 ?_
      refine lv_iload_n hx hb d_M_search_152 rfl (lv_at hl 3 rfl) ?_
      have hn1 : n - d = 1 := (nI_eq (b := 1) (by omega) (by decide)).mp c_2
      refine va_iald hx hb hK hP 2 0 rfl rfl (vp_in_nI (n := d) (N := 40) (by omega) (by decide)) d_M_search_153 ?_
      refine tp_i (show td (nI d).toNatClampNeg = ys.getD d 0 by rw [nI_clamp (by omega)]; exact hy.2 _ (by omega)) ?_
      refine lv_iload hx hb d_M_search_154 (lv_at hl 0 rfl) ?_
      refine tp_i ex ?_
      refine go_i (wr := [(h0, .inr (4, [.ref a1, .int (nI xs.length), .ref a2, .int n2, .ref a3, .ref a4, .int n3])), (a1, .inl (gI g, 200, .inl md)), (a2, .inl (gI g, 40, .inl td))]) (run_S hF (c_M_sign g l _ (nI (8 - (k + 1))) (vp_in_nI (by omega) (by decide))) k_M_sign j_M_106 (cw_down G hP hD hS hA [] rfl rfl) ⟨Nat.le_of_ble_eq_true rfl, Nat.le_of_ble_eq_true rfl⟩ rfl hl.1 (Nat.le_of_ble_eq_true rfl) d_M_search_156 ⟨(by first | exact Nat.le_of_ble_eq_true rfl | (dsimp only; omega) | omega), (by first | exact Nat.le_of_ble_eq_true rfl | (dsimp only; omega) | omega)⟩) hP hD hS hA [] [0, 1, 2] rfl rfl rfl (by decide) (fun r_3 w1 H locs hp hP hD hS => ?_)
      obtain ⟨rfl, rfl⟩ := hp
      have hP : va_P (gD g) classes [(h0, .inr (4, [.ref a1, .int (nI xs.length), .ref a2, .int n2, .ref a3, .ref a4, .int n3])), (a1, .inl (gI g, 200, .inl md)), (a2, .inl (gI g, 40, .inl td))] H := hP
      have hD : va_D A [(h0, .inr (4, [.ref a1, .int (nI xs.length), .ref a2, .int n2, .ref a3, .ref a4, .int n3])), (a1, .inl (gI g, 200, .inl md)), (a2, .inl (gI g, 40, .inl td))] := hD
      refine lv_icmp_ne (tgt := 165) hx hb d_M_search_159 (by decide) (fun c_4 => ?_) (fun c_4 => ?_)
      · skip
        refine lv_iinc (v := (x + 1)) (lv' := [(5, .int (x + 1)), (3, .int tt), (0, .ref h0), (1, .int (nI d)), (2, .int (nI n))]) hx hb d_M_search_165 hl (k := 0) rfl (by first | rfl | decide) (by decide) rfl (fun ls hl => ?_)
        refine lv_goto (tgt := 134) hx hb d_M_search_168 (by decide) ?_
        exact ih tt _ _ _ (by omega) (by omega) (by omega) (by rw [ex, nI_1]; congr 1; omega) (by rw [zg_M_code, if_pos c_2, if_neg c_4] at hp1; exact hp1) _ _ (hP.sub (ws' := [(h0, .inr (4, [.ref a1, .int (nI xs.length), .ref a2, .int n2, .ref a3, .ref a4, .int n3])), (a1, .inl (gI g, 200, .inl md)), (a2, .inl (gI g, 40, .inl td))]) [0, 1, 2] rfl) (hD.sub (ws' := [(h0, .inr (4, [.ref a1, .int (nI xs.length), .ref a2, .int n2, .ref a3, .ref a4, .int n3])), (a1, .inl (gI g, 200, .inl md)), (a2, .inl (gI g, 40, .inl td))]) [0, 1, 2] rfl rfl) hS _ (lv_sub hl [0, 1, 2, 3, 4] rfl)
      · skip
        refine lv_iload hx hb d_M_search_162 (lv_at hl 0 rfl) ?_
        refine tp_i ex ?_
        refine lv_istore_n (lv' := [(3, .int (nI (8 - (k + 1)))), (5, .int x), (0, .ref h0), (1, .int (nI d)), (2, .int (nI n))]) hx hb d_M_search_164 rfl hl (by decide) rfl (fun ls hl => ?_)
        refine lv_iinc (v := (x + 1)) (lv' := [(5, .int (x + 1)), (3, .int (nI (8 - (k + 1)))), (0, .ref h0), (1, .int (nI d)), (2, .int (nI n))]) hx hb d_M_search_165 hl (k := 1) rfl (by first | rfl | decide) (by decide) rfl (fun ls hl => ?_)
        refine lv_goto (tgt := 134) hx hb d_M_search_168 (by decide) ?_
        exact ih (nI (8 - (k + 1))) _ _ _ (by omega) (by omega) (by omega) (by rw [ex, nI_1]; congr 1; omega) (by rw [zg_M_code, if_pos c_2, if_pos c_4] at hp1; exact hp1) _ _ (hP.sub (ws' := [(h0, .inr (4, [.ref a1, .int (nI xs.length), .ref a2, .int n2, .ref a3, .ref a4, .int n3])), (a1, .inl (gI g, 200, .inl md)), (a2, .inl (gI g, 40, .inl td))]) [0, 1, 2] rfl) (hD.sub (ws' := [(h0, .inr (4, [.ref a1, .int (nI xs.length), .ref a2, .int n2, .ref a3, .ref a4, .int n3])), (a1, .inl (gI g, 200, .inl md)), (a2, .inl (gI g, 40, .inl td))]) [0, 1, 2] rfl rfl) hS _ (lv_sub hl [0, 1, 2, 3, 4] rfl)
set_option maxHeartbeats 4000000 in
set_option maxRecDepth 100000 in
theorem c_M_search (g : gT) (l : Launch) (sz : Nat) (h0 a1 a2 a3 a4 : Nat) (n2 n3 : Int32) (xs : List Int32) (md : Nat → Int32) (hm : mt xs md) (ys : List Int32) (td : Nat → Int32) (hy : ty ys td) (d n : Nat) (hdn : d ≤ n) (hn : n ≤ ys.length) : Mg g l y_M_search b_M_search 7 (some .int) 5 110 8 72 [.ref h0, .int (nI d), .int (nI n)] [(h0, .inr (4, [.ref a1, .int (nI xs.length), .ref a2, .int n2, .ref a3, .ref a4, .int n3])), (a1, .inl (gI g, 200, .inl md)), (a2, .inl (gI g, 40, .inl td))] sz (qI g (fun r w1 => r = f_M_search ys d n ∧ ∃ (xs' : List Int32) (md' : Nat → Int32), w1 = [(h0, .inr (4, [.ref a1, .int (nI xs'.length), .ref a2, .int n2, .ref a3, .ref a4, .int n3])), (a1, .inl (gI g, 200, .inl md')), (a2, .inl (gI g, 40, .inl td))] ∧ mt xs' md')) := by
  refine mg_of (by decide) (Nat.le_of_ble_eq_true rfl) ?_
  intro p e s m below meth c ls A hx hb hF hr hlk hnm hA G hP hD hS hl
  have hK := G.2.1
  have hN := G.1
  have hl : lv_has ls 7 [(0, .ref h0), (1, .int (nI d)), (2, .int (nI n))] := hl
  have hm1 := hm.1
  have hy1 := hy.1
  refine lv_iconst (v := (-1)) hx hb d_M_search_0 (by decide) ?_
  refine lv_istore_n (lv' := [(3, .int (-1)), (0, .ref h0), (1, .int (nI d)), (2, .int (nI n))]) hx hb d_M_search_1 rfl hl (by decide) rfl (fun ls hl => ?_)
  refine jn_v (f := (f_M_elem ys d n)) (pc2 := 42) (ls := ls) (rest := []) ?_ (fun kJ => ?_)
  · skip
    refine lv_istore (lv' := [(4, .int (f_M_elem ys d n)), (3, .int (-1)), (0, .ref h0), (1, .int (nI d)), (2, .int (nI n))]) hx hb d_M_search_42 hl (by decide) rfl (fun ls hl => ?_)
    refine lv_iload hx hb d_M_search_44 (lv_at hl 0 rfl) ?_
    refine lv_if_eq (tgt := 122) hx hb d_M_search_46 (by decide) (fun c_1 => ?_) (fun c_1 => ?_)
    · skip
      refine lv_iload_n hx hb d_M_search_122 rfl (lv_at hl 4 rfl) ?_
      refine lv_iload_n hx hb d_M_search_123 rfl (lv_at hl 3 rfl) ?_
      refine lv_isub hx hb d_M_search_124 ?_
      refine tp_i (show nI n - nI d = nI (n - d) from pk_sub hdn) ?_
      refine lv_iconst (v := 1) hx hb d_M_search_125 (by decide) ?_
      refine lv_icmp_le (tgt := 131) hx hb d_M_search_126 (by decide) (fun c_2 => ?_) (fun c_2 => ?_)
      · skip
        refine lv_iconst (v := 0) hx hb d_M_search_131 (by decide) ?_
        refine lv_istore (lv' := [(5, .int 0), (4, .int (f_M_elem ys d n)), (3, .int (-1)), (0, .ref h0), (1, .int (nI d)), (2, .int (nI n))]) hx hb d_M_search_132 hl (by decide) rfl (fun ls hl => ?_)
        refine lp_M_search h0 a1 a2 a3 a4 n2 n3 xs md hm ys td hy d n hdn hn hx hb hF hA G (zg_M_code ys d n 8 (-1)) (fun cells slots hc1 hc2 H locs ls hP hD hS hl => ?_) 8 (-1) 0 0 0 (by omega) (by omega) (by omega) rfl rfl _ _ (hP.sub (ws' := [(h0, .inr (4, [.ref a1, .int (nI xs.length), .ref a2, .int n2, .ref a3, .ref a4, .int n3])), (a1, .inl (gI g, 200, .inl md)), (a2, .inl (gI g, 40, .inl td))]) [0, 1, 2] rfl) (hD.sub (ws' := [(h0, .inr (4, [.ref a1, .int (nI xs.length), .ref a2, .int n2, .ref a3, .ref a4, .int n3])), (a1, .inl (gI g, 200, .inl md)), (a2, .inl (gI g, 40, .inl td))]) [0, 1, 2] rfl rfl) hS _ (lv_sub hl [0, 2, 3, 4, 5] rfl)
        refine lv_iload_n hx hb d_M_search_171 rfl (lv_at hl 0 rfl) ?_
        refine lv_if_ge (tgt := 178) hx hb d_M_search_172 (by decide) (fun c_3 => ?_) (fun c_3 => ?_)
        · skip
          refine lv_iload_n hx hb d_M_search_178 rfl (lv_at hl 2 rfl) ?_
          refine lv_iconst (v := 2) hx hb d_M_search_179 (by decide) ?_
          refine lv_icmp_le (tgt := 188) hx hb d_M_search_180 (by decide) (fun c_4 => ?_) (fun c_4 => ?_)
          · skip
            refine lv_bipush (v := 40) hx hb d_M_search_188 (by decide) ?_
            refine lv_iload_n hx hb d_M_search_190 rfl (lv_at hl 2 rfl) ?_
            refine lv_imul hx hb d_M_search_191 ?_
            refine lv_iload_n hx hb d_M_search_192 rfl (lv_at hl 0 rfl) ?_
            refine lv_iadd hx hb d_M_search_193 ?_
            exact ret_i hx hb hr hlk (hP.sub (ws' := [(h0, .inr (4, [.ref a1, .int (nI xs.length), .ref a2, .int n2, .ref a3, .ref a4, .int n3])), (a1, .inl (gI g, 200, .inl md)), (a2, .inl (gI g, 40, .inl td))]) [0, 1, 2] rfl) (hD.sub (ws' := [(h0, .inr (4, [.ref a1, .int (nI xs.length), .ref a2, .int n2, .ref a3, .ref a4, .int n3])), (a1, .inl (gI g, 200, .inl md)), (a2, .inl (gI g, 40, .inl td))]) [0, 1, 2] rfl rfl) hS (nar_i _) ⟨by rw [f_M_search, if_pos c_1, if_pos c_2, if_pos c_3, if_pos c_4], _, _, rfl, hm⟩ (by first | exact Nat.le_of_ble_eq_true rfl | (dsimp only; omega) | omega) (by first | exact Nat.le_of_ble_eq_true rfl | (dsimp only; omega) | omega) d_M_search_194
          · skip
            refine lv_bipush (v := (-3)) hx hb d_M_search_183 (by decide) ?_
            refine lv_goto (tgt := 194) hx hb d_M_search_185 (by decide) ?_
            exact ret_i hx hb hr hlk (hP.sub (ws' := [(h0, .inr (4, [.ref a1, .int (nI xs.length), .ref a2, .int n2, .ref a3, .ref a4, .int n3])), (a1, .inl (gI g, 200, .inl md)), (a2, .inl (gI g, 40, .inl td))]) [0, 1, 2] rfl) (hD.sub (ws' := [(h0, .inr (4, [.ref a1, .int (nI xs.length), .ref a2, .int n2, .ref a3, .ref a4, .int n3])), (a1, .inl (gI g, 200, .inl md)), (a2, .inl (gI g, 40, .inl td))]) [0, 1, 2] rfl rfl) hS (nar_i _) ⟨by rw [f_M_search, if_pos c_1, if_pos c_2, if_pos c_3, if_neg c_4], _, _, rfl, hm⟩ (by first | exact Nat.le_of_ble_eq_true rfl | (dsimp only; omega) | omega) (by first | exact Nat.le_of_ble_eq_true rfl | (dsimp only; omega) | omega) d_M_search_194
        · skip
          refine lv_bipush (v := (-4)) hx hb d_M_search_175 (by decide) ?_
          exact ret_i hx hb hr hlk (hP.sub (ws' := [(h0, .inr (4, [.ref a1, .int (nI xs.length), .ref a2, .int n2, .ref a3, .ref a4, .int n3])), (a1, .inl (gI g, 200, .inl md)), (a2, .inl (gI g, 40, .inl td))]) [0, 1, 2] rfl) (hD.sub (ws' := [(h0, .inr (4, [.ref a1, .int (nI xs.length), .ref a2, .int n2, .ref a3, .ref a4, .int n3])), (a1, .inl (gI g, 200, .inl md)), (a2, .inl (gI g, 40, .inl td))]) [0, 1, 2] rfl rfl) hS (nar_i _) ⟨by rw [f_M_search, if_pos c_1, if_pos c_2, if_neg c_3], _, _, rfl, hm⟩ (by first | exact Nat.le_of_ble_eq_true rfl | (dsimp only; omega) | omega) (by first | exact Nat.le_of_ble_eq_true rfl | (dsimp only; omega) | omega) d_M_search_177
      · skip
        refine lv_iconst (v := (-1)) hx hb d_M_search_129 (by decide) ?_
        exact ret_i hx hb hr hlk (hP.sub (ws' := [(h0, .inr (4, [.ref a1, .int (nI xs.length), .ref a2, .int n2, .ref a3, .ref a4, .int n3])), (a1, .inl (gI g, 200, .inl md)), (a2, .inl (gI g, 40, .inl td))]) [0, 1, 2] rfl) (hD.sub (ws' := [(h0, .inr (4, [.ref a1, .int (nI xs.length), .ref a2, .int n2, .ref a3, .ref a4, .int n3])), (a1, .inl (gI g, 200, .inl md)), (a2, .inl (gI g, 40, .inl td))]) [0, 1, 2] rfl rfl) hS (nar_i _) ⟨by rw [f_M_search, if_pos c_1, if_neg c_2], _, _, rfl, hm⟩ (by first | exact Nat.le_of_ble_eq_true rfl | (dsimp only; omega) | omega) (by first | exact Nat.le_of_ble_eq_true rfl | (dsimp only; omega) | omega) d_M_search_130
    · skip
      refine lv_iload_n hx hb d_M_search_49 rfl (lv_at hl 3 rfl) ?_
      refine lv_if_ne (tgt := 57) hx hb d_M_search_50 (by decide) (fun c_5 => ?_) (fun c_5 => ?_)
      · skip
        have hg2 := el_gt (by omega) c_1 c_5
        refine lv_iload_n hx hb d_M_search_57 rfl (lv_at hl 3 rfl) ?_
        refine lv_iconst (v := 1) hx hb d_M_search_58 (by decide) ?_
        refine lv_iadd hx hb d_M_search_59 ?_
        refine tp_i (nI_1 d) ?_
        refine lv_istore (lv' := [(5, .int (nI (d + 1))), (4, .int (f_M_elem ys d n)), (3, .int (-1)), (0, .ref h0), (1, .int (nI d)), (2, .int (nI n))]) hx hb d_M_search_60 hl (by decide) rfl (fun ls hl => ?_)
        refine lv_iload_n hx hb d_M_search_62 rfl (lv_at hl 4 rfl) ?_
        refine lv_if_ne (tgt := 70) hx hb d_M_search_63 (by decide) (fun c_6 => ?_) (fun c_6 => ?_)
        · skip
          refine lv_iload_n hx hb d_M_search_70 rfl (lv_at hl 5 rfl) ?_
          refine lv_iconst (v := 1) hx hb d_M_search_71 (by decide) ?_
          refine lv_isub hx hb d_M_search_72 ?_
          refine tp_i (show nI n - 1 = nI (n - 1) from pk_sub (b := 1) (by omega)) ?_
          refine lv_istore (lv' := [(6, .int (nI (n - 1))), (5, .int (nI (d + 1))), (4, .int (f_M_elem ys d n)), (3, .int (-1)), (0, .ref h0), (1, .int (nI d)), (2, .int (nI n))]) hx hb d_M_search_73 hl (by decide) rfl (fun ls hl => ?_)
          refine lv_aload_n hx hb d_M_search_75 rfl (lv_at hl 4 rfl) ?_
          refine lv_iload hx hb d_M_search_76 (lv_at hl 1 rfl) ?_
          refine lv_iload hx hb d_M_search_78 (lv_at hl 0 rfl) ?_
          refine go_i (wr := []) (run_V hF (c_M_named g l _ h0 a1 a2 a3 a4 n2 n3 xs md hm ys td hy (d + 1) (n - 1) (by omega) (by omega)) k_M_named j_M_199 se_M_M_named (va_recv hK hP (ci := 4) (q0 := 0) rfl rfl) (cw_down G hP hD hS hA [0, 1, 2] rfl rfl) ⟨Nat.le_of_ble_eq_true rfl, Nat.le_of_ble_eq_true rfl⟩ rfl hl.1 (Nat.le_of_ble_eq_true rfl) d_M_search_80 ⟨(by first | exact Nat.le_of_ble_eq_true rfl | (dsimp only; omega) | omega), (by first | exact Nat.le_of_ble_eq_true rfl | (dsimp only; omega) | omega)⟩) hP hD hS hA [0, 1, 2] [] rfl rfl rfl (by decide) (fun r_7 w1 H locs hp hP hD hS => ?_)
          obtain ⟨rfl, xs_8, md_8, rfl, hm_8⟩ := hp
          have hP : va_P (gD g) classes [(h0, .inr (4, [.ref a1, .int (nI xs_8.length), .ref a2, .int n2, .ref a3, .ref a4, .int n3])), (a1, .inl (gI g, 200, .inl md_8)), (a2, .inl (gI g, 40, .inl td))] H := hP
          have hD : va_D A [(h0, .inr (4, [.ref a1, .int (nI xs_8.length), .ref a2, .int n2, .ref a3, .ref a4, .int n3])), (a1, .inl (gI g, 200, .inl md_8)), (a2, .inl (gI g, 40, .inl td))] := hD
          refine lv_istore_n (lv' := [(3, .int (zg_M_named ys (d + 1) (n - 1) 25)), (6, .int (nI (n - 1))), (5, .int (nI (d + 1))), (4, .int (f_M_elem ys d n)), (0, .ref h0), (1, .int (nI d)), (2, .int (nI n))]) hx hb d_M_search_83 rfl hl (by decide) rfl (fun ls hl => ?_)
          refine lv_iload_n hx hb d_M_search_84 rfl (lv_at hl 0 rfl) ?_
          refine lv_if_lt (tgt := 94) hx hb d_M_search_85 (by decide) (fun c_9 => ?_) (fun c_9 => ?_)
          · skip
            refine lv_aload_n hx hb d_M_search_94 rfl (lv_at hl 4 rfl) ?_
            refine lv_iload hx hb d_M_search_95 (lv_at hl 2 rfl) ?_
            refine lv_iload hx hb d_M_search_97 (lv_at hl 1 rfl) ?_
            refine go_i (wr := []) (run_V hF (c_M_nested g l _ h0 a1 a2 a3 a4 n2 n3 xs_8 md_8 hm_8 ys td hy (d + 1) (n - 1) (by omega) (by omega)) k_M_nested j_M_203 se_M_M_nested (va_recv hK hP (ci := 4) (q0 := 0) rfl rfl) (cw_down G hP hD hS hA [0, 1, 2] rfl rfl) ⟨Nat.le_of_ble_eq_true rfl, Nat.le_of_ble_eq_true rfl⟩ rfl hl.1 (Nat.le_of_ble_eq_true rfl) d_M_search_99 ⟨(by first | exact Nat.le_of_ble_eq_true rfl | (dsimp only; omega) | omega), (by first | exact Nat.le_of_ble_eq_true rfl | (dsimp only; omega) | omega)⟩) hP hD hS hA [0, 1, 2] [] rfl rfl rfl (by decide) (fun r_10 w1 H locs hp hP hD hS => ?_)
            obtain ⟨rfl, xs_11, md_11, rfl, hm_11⟩ := hp
            have hP : va_P (gD g) classes [(h0, .inr (4, [.ref a1, .int (nI xs_11.length), .ref a2, .int n2, .ref a3, .ref a4, .int n3])), (a1, .inl (gI g, 200, .inl md_11)), (a2, .inl (gI g, 40, .inl td))] H := hP
            have hD : va_D A [(h0, .inr (4, [.ref a1, .int (nI xs_11.length), .ref a2, .int n2, .ref a3, .ref a4, .int n3])), (a1, .inl (gI g, 200, .inl md_11)), (a2, .inl (gI g, 40, .inl td))] := hD
            refine lv_if_ne (tgt := 107) hx hb d_M_search_102 (by decide) (fun c_12 => ?_) (fun c_12 => ?_)
            · skip
              refine lv_iload_n hx hb d_M_search_107 rfl (lv_at hl 0 rfl) ?_
              refine lv_if_lt (tgt := 119) hx hb d_M_search_108 (by decide) (fun c_13 => ?_) (fun c_13 => ?_)
              · skip
                refine lv_goto (tgt := 171) hx hb d_M_search_119 (by decide) ?_
                refine lv_iload_n hx hb d_M_search_171 rfl (lv_at hl 0 rfl) ?_
                refine lv_if_ge (tgt := 178) hx hb d_M_search_172 (by decide) (fun c_14 => ?_) (fun c_14 => ?_)
                · skip
                  refine lv_iload_n hx hb d_M_search_178 rfl (lv_at hl 5 rfl) ?_
                  refine lv_iconst (v := 2) hx hb d_M_search_179 (by decide) ?_
                  refine lv_icmp_le (tgt := 188) hx hb d_M_search_180 (by decide) (fun c_15 => ?_) (fun c_15 => ?_)
                  · skip
                    refine lv_bipush (v := 40) hx hb d_M_search_188 (by decide) ?_
                    refine lv_iload_n hx hb d_M_search_190 rfl (lv_at hl 5 rfl) ?_
                    refine lv_imul hx hb d_M_search_191 ?_
                    refine lv_iload_n hx hb d_M_search_192 rfl (lv_at hl 0 rfl) ?_
                    refine lv_iadd hx hb d_M_search_193 ?_
                    exact ret_i hx hb hr hlk (hP.sub (ws' := [(h0, .inr (4, [.ref a1, .int (nI xs_11.length), .ref a2, .int n2, .ref a3, .ref a4, .int n3])), (a1, .inl (gI g, 200, .inl md_11)), (a2, .inl (gI g, 40, .inl td))]) [0, 1, 2] rfl) (hD.sub (ws' := [(h0, .inr (4, [.ref a1, .int (nI xs_11.length), .ref a2, .int n2, .ref a3, .ref a4, .int n3])), (a1, .inl (gI g, 200, .inl md_11)), (a2, .inl (gI g, 40, .inl td))]) [0, 1, 2] rfl rfl) hS (nar_i _) ⟨by rw [f_M_search, if_neg c_1, if_neg c_5, if_pos c_9, if_neg c_12, if_pos c_14, if_pos c_15], _, _, rfl, hm_11⟩ (by first | exact Nat.le_of_ble_eq_true rfl | (dsimp only; omega) | omega) (by first | exact Nat.le_of_ble_eq_true rfl | (dsimp only; omega) | omega) d_M_search_194
                  · skip
                    refine lv_bipush (v := (-3)) hx hb d_M_search_183 (by decide) ?_
                    refine lv_goto (tgt := 194) hx hb d_M_search_185 (by decide) ?_
                    exact ret_i hx hb hr hlk (hP.sub (ws' := [(h0, .inr (4, [.ref a1, .int (nI xs_11.length), .ref a2, .int n2, .ref a3, .ref a4, .int n3])), (a1, .inl (gI g, 200, .inl md_11)), (a2, .inl (gI g, 40, .inl td))]) [0, 1, 2] rfl) (hD.sub (ws' := [(h0, .inr (4, [.ref a1, .int (nI xs_11.length), .ref a2, .int n2, .ref a3, .ref a4, .int n3])), (a1, .inl (gI g, 200, .inl md_11)), (a2, .inl (gI g, 40, .inl td))]) [0, 1, 2] rfl rfl) hS (nar_i _) ⟨by rw [f_M_search, if_neg c_1, if_neg c_5, if_pos c_9, if_neg c_12, if_pos c_14, if_neg c_15], _, _, rfl, hm_11⟩ (by first | exact Nat.le_of_ble_eq_true rfl | (dsimp only; omega) | omega) (by first | exact Nat.le_of_ble_eq_true rfl | (dsimp only; omega) | omega) d_M_search_194
                · skip
                  refine lv_bipush (v := (-4)) hx hb d_M_search_175 (by decide) ?_
                  exact ret_i hx hb hr hlk (hP.sub (ws' := [(h0, .inr (4, [.ref a1, .int (nI xs_11.length), .ref a2, .int n2, .ref a3, .ref a4, .int n3])), (a1, .inl (gI g, 200, .inl md_11)), (a2, .inl (gI g, 40, .inl td))]) [0, 1, 2] rfl) (hD.sub (ws' := [(h0, .inr (4, [.ref a1, .int (nI xs_11.length), .ref a2, .int n2, .ref a3, .ref a4, .int n3])), (a1, .inl (gI g, 200, .inl md_11)), (a2, .inl (gI g, 40, .inl td))]) [0, 1, 2] rfl rfl) hS (nar_i _) ⟨by rw [f_M_search, if_neg c_1, if_neg c_5, if_pos c_9, if_neg c_12, if_neg c_14], _, _, rfl, hm_11⟩ (by first | exact Nat.le_of_ble_eq_true rfl | (dsimp only; omega) | omega) (by first | exact Nat.le_of_ble_eq_true rfl | (dsimp only; omega) | omega) d_M_search_177
              · exact absurd c_9 c_13
            · skip
              refine lv_iconst (v := (-1)) hx hb d_M_search_105 (by decide) ?_
              exact ret_i hx hb hr hlk (hP.sub (ws' := [(h0, .inr (4, [.ref a1, .int (nI xs_11.length), .ref a2, .int n2, .ref a3, .ref a4, .int n3])), (a1, .inl (gI g, 200, .inl md_11)), (a2, .inl (gI g, 40, .inl td))]) [0, 1, 2] rfl) (hD.sub (ws' := [(h0, .inr (4, [.ref a1, .int (nI xs_11.length), .ref a2, .int n2, .ref a3, .ref a4, .int n3])), (a1, .inl (gI g, 200, .inl md_11)), (a2, .inl (gI g, 40, .inl td))]) [0, 1, 2] rfl rfl) hS (nar_i _) ⟨by rw [f_M_search, if_neg c_1, if_neg c_5, if_pos c_9, if_pos c_12], _, _, rfl, hm_11⟩ (by first | exact Nat.le_of_ble_eq_true rfl | (dsimp only; omega) | omega) (by first | exact Nat.le_of_ble_eq_true rfl | (dsimp only; omega) | omega) d_M_search_106
          · skip
            refine lv_iload_n hx hb d_M_search_88 rfl (lv_at hl 0 rfl) ?_
            refine lv_bipush (v := 11) hx hb d_M_search_89 (by decide) ?_
            refine lv_icmp_le (tgt := 107) hx hb d_M_search_91 (by decide) (fun c_16 => ?_) (fun c_16 => ?_)
            · skip
              refine lv_iload_n hx hb d_M_search_107 rfl (lv_at hl 0 rfl) ?_
              refine lv_if_lt (tgt := 119) hx hb d_M_search_108 (by decide) (fun c_17 => ?_) (fun c_17 => ?_)
              · exact absurd c_17 c_9
              · skip
                refine lv_iload_n hx hb d_M_search_111 rfl (lv_at hl 0 rfl) ?_
                refine lv_bipush (v := 9) hx hb d_M_search_112 (by decide) ?_
                refine lv_icmp_ge (tgt := 119) hx hb d_M_search_114 (by decide) (fun c_18 => ?_) (fun c_18 => ?_)
                · skip
                  refine lv_goto (tgt := 171) hx hb d_M_search_119 (by decide) ?_
                  refine lv_iload_n hx hb d_M_search_171 rfl (lv_at hl 0 rfl) ?_
                  refine lv_if_ge (tgt := 178) hx hb d_M_search_172 (by decide) (fun c_19 => ?_) (fun c_19 => ?_)
                  · skip
                    refine lv_iload_n hx hb d_M_search_178 rfl (lv_at hl 5 rfl) ?_
                    refine lv_iconst (v := 2) hx hb d_M_search_179 (by decide) ?_
                    refine lv_icmp_le (tgt := 188) hx hb d_M_search_180 (by decide) (fun c_20 => ?_) (fun c_20 => ?_)
                    · skip
                      refine lv_bipush (v := 40) hx hb d_M_search_188 (by decide) ?_
                      refine lv_iload_n hx hb d_M_search_190 rfl (lv_at hl 5 rfl) ?_
                      refine lv_imul hx hb d_M_search_191 ?_
                      refine lv_iload_n hx hb d_M_search_192 rfl (lv_at hl 0 rfl) ?_
                      refine lv_iadd hx hb d_M_search_193 ?_
                      exact ret_i hx hb hr hlk (hP.sub (ws' := [(h0, .inr (4, [.ref a1, .int (nI xs_8.length), .ref a2, .int n2, .ref a3, .ref a4, .int n3])), (a1, .inl (gI g, 200, .inl md_8)), (a2, .inl (gI g, 40, .inl td))]) [0, 1, 2] rfl) (hD.sub (ws' := [(h0, .inr (4, [.ref a1, .int (nI xs_8.length), .ref a2, .int n2, .ref a3, .ref a4, .int n3])), (a1, .inl (gI g, 200, .inl md_8)), (a2, .inl (gI g, 40, .inl td))]) [0, 1, 2] rfl rfl) hS (nar_i _) ⟨by rw [f_M_search, if_neg c_1, if_neg c_5, if_neg c_9, if_pos c_16, if_pos c_18, if_pos c_19, if_pos c_20], _, _, rfl, hm_8⟩ (by first | exact Nat.le_of_ble_eq_true rfl | (dsimp only; omega) | omega) (by first | exact Nat.le_of_ble_eq_true rfl | (dsimp only; omega) | omega) d_M_search_194
                    · skip
                      refine lv_bipush (v := (-3)) hx hb d_M_search_183 (by decide) ?_
                      refine lv_goto (tgt := 194) hx hb d_M_search_185 (by decide) ?_
                      exact ret_i hx hb hr hlk (hP.sub (ws' := [(h0, .inr (4, [.ref a1, .int (nI xs_8.length), .ref a2, .int n2, .ref a3, .ref a4, .int n3])), (a1, .inl (gI g, 200, .inl md_8)), (a2, .inl (gI g, 40, .inl td))]) [0, 1, 2] rfl) (hD.sub (ws' := [(h0, .inr (4, [.ref a1, .int (nI xs_8.length), .ref a2, .int n2, .ref a3, .ref a4, .int n3])), (a1, .inl (gI g, 200, .inl md_8)), (a2, .inl (gI g, 40, .inl td))]) [0, 1, 2] rfl rfl) hS (nar_i _) ⟨by rw [f_M_search, if_neg c_1, if_neg c_5, if_neg c_9, if_pos c_16, if_pos c_18, if_pos c_19, if_neg c_20], _, _, rfl, hm_8⟩ (by first | exact Nat.le_of_ble_eq_true rfl | (dsimp only; omega) | omega) (by first | exact Nat.le_of_ble_eq_true rfl | (dsimp only; omega) | omega) d_M_search_194
                  · skip
                    refine lv_bipush (v := (-4)) hx hb d_M_search_175 (by decide) ?_
                    exact ret_i hx hb hr hlk (hP.sub (ws' := [(h0, .inr (4, [.ref a1, .int (nI xs_8.length), .ref a2, .int n2, .ref a3, .ref a4, .int n3])), (a1, .inl (gI g, 200, .inl md_8)), (a2, .inl (gI g, 40, .inl td))]) [0, 1, 2] rfl) (hD.sub (ws' := [(h0, .inr (4, [.ref a1, .int (nI xs_8.length), .ref a2, .int n2, .ref a3, .ref a4, .int n3])), (a1, .inl (gI g, 200, .inl md_8)), (a2, .inl (gI g, 40, .inl td))]) [0, 1, 2] rfl rfl) hS (nar_i _) ⟨by rw [f_M_search, if_neg c_1, if_neg c_5, if_neg c_9, if_pos c_16, if_pos c_18, if_neg c_19], _, _, rfl, hm_8⟩ (by first | exact Nat.le_of_ble_eq_true rfl | (dsimp only; omega) | omega) (by first | exact Nat.le_of_ble_eq_true rfl | (dsimp only; omega) | omega) d_M_search_177
                · skip
                  refine lv_iconst (v := (-1)) hx hb d_M_search_117 (by decide) ?_
                  refine lv_istore_n (lv' := [(3, .int (-1)), (6, .int (nI (n - 1))), (5, .int (nI (d + 1))), (4, .int (f_M_elem ys d n)), (0, .ref h0), (1, .int (nI d)), (2, .int (nI n))]) hx hb d_M_search_118 rfl hl (by decide) rfl (fun ls hl => ?_)
                  refine lv_goto (tgt := 171) hx hb d_M_search_119 (by decide) ?_
                  refine lv_iload_n hx hb d_M_search_171 rfl (lv_at hl 0 rfl) ?_
                  refine lv_if_ge (tgt := 178) hx hb d_M_search_172 (by decide) (fun c_21 => ?_) (fun c_21 => ?_)
                  · exact absurd c_21 (by decide)
                  · skip
                    refine lv_bipush (v := (-4)) hx hb d_M_search_175 (by decide) ?_
                    exact ret_i hx hb hr hlk (hP.sub (ws' := [(h0, .inr (4, [.ref a1, .int (nI xs_8.length), .ref a2, .int n2, .ref a3, .ref a4, .int n3])), (a1, .inl (gI g, 200, .inl md_8)), (a2, .inl (gI g, 40, .inl td))]) [0, 1, 2] rfl) (hD.sub (ws' := [(h0, .inr (4, [.ref a1, .int (nI xs_8.length), .ref a2, .int n2, .ref a3, .ref a4, .int n3])), (a1, .inl (gI g, 200, .inl md_8)), (a2, .inl (gI g, 40, .inl td))]) [0, 1, 2] rfl rfl) hS (nar_i _) ⟨by rw [f_M_search, if_neg c_1, if_neg c_5, if_neg c_9, if_pos c_16, if_neg c_18], _, _, rfl, hm_8⟩ (by first | exact Nat.le_of_ble_eq_true rfl | (dsimp only; omega) | omega) (by first | exact Nat.le_of_ble_eq_true rfl | (dsimp only; omega) | omega) d_M_search_177
            · skip
              refine lv_aload_n hx hb d_M_search_94 rfl (lv_at hl 4 rfl) ?_
              refine lv_iload hx hb d_M_search_95 (lv_at hl 2 rfl) ?_
              refine lv_iload hx hb d_M_search_97 (lv_at hl 1 rfl) ?_
              refine go_i (wr := []) (run_V hF (c_M_nested g l _ h0 a1 a2 a3 a4 n2 n3 xs_8 md_8 hm_8 ys td hy (d + 1) (n - 1) (by omega) (by omega)) k_M_nested j_M_203 se_M_M_nested (va_recv hK hP (ci := 4) (q0 := 0) rfl rfl) (cw_down G hP hD hS hA [0, 1, 2] rfl rfl) ⟨Nat.le_of_ble_eq_true rfl, Nat.le_of_ble_eq_true rfl⟩ rfl hl.1 (Nat.le_of_ble_eq_true rfl) d_M_search_99 ⟨(by first | exact Nat.le_of_ble_eq_true rfl | (dsimp only; omega) | omega), (by first | exact Nat.le_of_ble_eq_true rfl | (dsimp only; omega) | omega)⟩) hP hD hS hA [0, 1, 2] [] rfl rfl rfl (by decide) (fun r_22 w1 H locs hp hP hD hS => ?_)
              obtain ⟨rfl, xs_23, md_23, rfl, hm_23⟩ := hp
              have hP : va_P (gD g) classes [(h0, .inr (4, [.ref a1, .int (nI xs_23.length), .ref a2, .int n2, .ref a3, .ref a4, .int n3])), (a1, .inl (gI g, 200, .inl md_23)), (a2, .inl (gI g, 40, .inl td))] H := hP
              have hD : va_D A [(h0, .inr (4, [.ref a1, .int (nI xs_23.length), .ref a2, .int n2, .ref a3, .ref a4, .int n3])), (a1, .inl (gI g, 200, .inl md_23)), (a2, .inl (gI g, 40, .inl td))] := hD
              refine lv_if_ne (tgt := 107) hx hb d_M_search_102 (by decide) (fun c_24 => ?_) (fun c_24 => ?_)
              · skip
                refine lv_iload_n hx hb d_M_search_107 rfl (lv_at hl 0 rfl) ?_
                refine lv_if_lt (tgt := 119) hx hb d_M_search_108 (by decide) (fun c_25 => ?_) (fun c_25 => ?_)
                · exact absurd c_25 c_9
                · skip
                  refine lv_iload_n hx hb d_M_search_111 rfl (lv_at hl 0 rfl) ?_
                  refine lv_bipush (v := 9) hx hb d_M_search_112 (by decide) ?_
                  refine lv_icmp_ge (tgt := 119) hx hb d_M_search_114 (by decide) (fun c_26 => ?_) (fun c_26 => ?_)
                  · skip
                    refine lv_goto (tgt := 171) hx hb d_M_search_119 (by decide) ?_
                    refine lv_iload_n hx hb d_M_search_171 rfl (lv_at hl 0 rfl) ?_
                    refine lv_if_ge (tgt := 178) hx hb d_M_search_172 (by decide) (fun c_27 => ?_) (fun c_27 => ?_)
                    · skip
                      refine lv_iload_n hx hb d_M_search_178 rfl (lv_at hl 5 rfl) ?_
                      refine lv_iconst (v := 2) hx hb d_M_search_179 (by decide) ?_
                      refine lv_icmp_le (tgt := 188) hx hb d_M_search_180 (by decide) (fun c_28 => ?_) (fun c_28 => ?_)
                      · skip
                        refine lv_bipush (v := 40) hx hb d_M_search_188 (by decide) ?_
                        refine lv_iload_n hx hb d_M_search_190 rfl (lv_at hl 5 rfl) ?_
                        refine lv_imul hx hb d_M_search_191 ?_
                        refine lv_iload_n hx hb d_M_search_192 rfl (lv_at hl 0 rfl) ?_
                        refine lv_iadd hx hb d_M_search_193 ?_
                        exact ret_i hx hb hr hlk (hP.sub (ws' := [(h0, .inr (4, [.ref a1, .int (nI xs_23.length), .ref a2, .int n2, .ref a3, .ref a4, .int n3])), (a1, .inl (gI g, 200, .inl md_23)), (a2, .inl (gI g, 40, .inl td))]) [0, 1, 2] rfl) (hD.sub (ws' := [(h0, .inr (4, [.ref a1, .int (nI xs_23.length), .ref a2, .int n2, .ref a3, .ref a4, .int n3])), (a1, .inl (gI g, 200, .inl md_23)), (a2, .inl (gI g, 40, .inl td))]) [0, 1, 2] rfl rfl) hS (nar_i _) ⟨by rw [f_M_search, if_neg c_1, if_neg c_5, if_neg c_9, if_neg c_16, if_neg c_24, if_pos c_26, if_pos c_27, if_pos c_28], _, _, rfl, hm_23⟩ (by first | exact Nat.le_of_ble_eq_true rfl | (dsimp only; omega) | omega) (by first | exact Nat.le_of_ble_eq_true rfl | (dsimp only; omega) | omega) d_M_search_194
                      · skip
                        refine lv_bipush (v := (-3)) hx hb d_M_search_183 (by decide) ?_
                        refine lv_goto (tgt := 194) hx hb d_M_search_185 (by decide) ?_
                        exact ret_i hx hb hr hlk (hP.sub (ws' := [(h0, .inr (4, [.ref a1, .int (nI xs_23.length), .ref a2, .int n2, .ref a3, .ref a4, .int n3])), (a1, .inl (gI g, 200, .inl md_23)), (a2, .inl (gI g, 40, .inl td))]) [0, 1, 2] rfl) (hD.sub (ws' := [(h0, .inr (4, [.ref a1, .int (nI xs_23.length), .ref a2, .int n2, .ref a3, .ref a4, .int n3])), (a1, .inl (gI g, 200, .inl md_23)), (a2, .inl (gI g, 40, .inl td))]) [0, 1, 2] rfl rfl) hS (nar_i _) ⟨by rw [f_M_search, if_neg c_1, if_neg c_5, if_neg c_9, if_neg c_16, if_neg c_24, if_pos c_26, if_pos c_27, if_neg c_28], _, _, rfl, hm_23⟩ (by first | exact Nat.le_of_ble_eq_true rfl | (dsimp only; omega) | omega) (by first | exact Nat.le_of_ble_eq_true rfl | (dsimp only; omega) | omega) d_M_search_194
                    · skip
                      refine lv_bipush (v := (-4)) hx hb d_M_search_175 (by decide) ?_
                      exact ret_i hx hb hr hlk (hP.sub (ws' := [(h0, .inr (4, [.ref a1, .int (nI xs_23.length), .ref a2, .int n2, .ref a3, .ref a4, .int n3])), (a1, .inl (gI g, 200, .inl md_23)), (a2, .inl (gI g, 40, .inl td))]) [0, 1, 2] rfl) (hD.sub (ws' := [(h0, .inr (4, [.ref a1, .int (nI xs_23.length), .ref a2, .int n2, .ref a3, .ref a4, .int n3])), (a1, .inl (gI g, 200, .inl md_23)), (a2, .inl (gI g, 40, .inl td))]) [0, 1, 2] rfl rfl) hS (nar_i _) ⟨by rw [f_M_search, if_neg c_1, if_neg c_5, if_neg c_9, if_neg c_16, if_neg c_24, if_pos c_26, if_neg c_27], _, _, rfl, hm_23⟩ (by first | exact Nat.le_of_ble_eq_true rfl | (dsimp only; omega) | omega) (by first | exact Nat.le_of_ble_eq_true rfl | (dsimp only; omega) | omega) d_M_search_177
                  · skip
                    refine lv_iconst (v := (-1)) hx hb d_M_search_117 (by decide) ?_
                    refine lv_istore_n (lv' := [(3, .int (-1)), (6, .int (nI (n - 1))), (5, .int (nI (d + 1))), (4, .int (f_M_elem ys d n)), (0, .ref h0), (1, .int (nI d)), (2, .int (nI n))]) hx hb d_M_search_118 rfl hl (by decide) rfl (fun ls hl => ?_)
                    refine lv_goto (tgt := 171) hx hb d_M_search_119 (by decide) ?_
                    refine lv_iload_n hx hb d_M_search_171 rfl (lv_at hl 0 rfl) ?_
                    refine lv_if_ge (tgt := 178) hx hb d_M_search_172 (by decide) (fun c_29 => ?_) (fun c_29 => ?_)
                    · exact absurd c_29 (by decide)
                    · skip
                      refine lv_bipush (v := (-4)) hx hb d_M_search_175 (by decide) ?_
                      exact ret_i hx hb hr hlk (hP.sub (ws' := [(h0, .inr (4, [.ref a1, .int (nI xs_23.length), .ref a2, .int n2, .ref a3, .ref a4, .int n3])), (a1, .inl (gI g, 200, .inl md_23)), (a2, .inl (gI g, 40, .inl td))]) [0, 1, 2] rfl) (hD.sub (ws' := [(h0, .inr (4, [.ref a1, .int (nI xs_23.length), .ref a2, .int n2, .ref a3, .ref a4, .int n3])), (a1, .inl (gI g, 200, .inl md_23)), (a2, .inl (gI g, 40, .inl td))]) [0, 1, 2] rfl rfl) hS (nar_i _) ⟨by rw [f_M_search, if_neg c_1, if_neg c_5, if_neg c_9, if_neg c_16, if_neg c_24, if_neg c_26], _, _, rfl, hm_23⟩ (by first | exact Nat.le_of_ble_eq_true rfl | (dsimp only; omega) | omega) (by first | exact Nat.le_of_ble_eq_true rfl | (dsimp only; omega) | omega) d_M_search_177
              · skip
                refine lv_iconst (v := (-1)) hx hb d_M_search_105 (by decide) ?_
                exact ret_i hx hb hr hlk (hP.sub (ws' := [(h0, .inr (4, [.ref a1, .int (nI xs_23.length), .ref a2, .int n2, .ref a3, .ref a4, .int n3])), (a1, .inl (gI g, 200, .inl md_23)), (a2, .inl (gI g, 40, .inl td))]) [0, 1, 2] rfl) (hD.sub (ws' := [(h0, .inr (4, [.ref a1, .int (nI xs_23.length), .ref a2, .int n2, .ref a3, .ref a4, .int n3])), (a1, .inl (gI g, 200, .inl md_23)), (a2, .inl (gI g, 40, .inl td))]) [0, 1, 2] rfl rfl) hS (nar_i _) ⟨by rw [f_M_search, if_neg c_1, if_neg c_5, if_neg c_9, if_neg c_16, if_pos c_24], _, _, rfl, hm_23⟩ (by first | exact Nat.le_of_ble_eq_true rfl | (dsimp only; omega) | omega) (by first | exact Nat.le_of_ble_eq_true rfl | (dsimp only; omega) | omega) d_M_search_106
        · exact absurd c_6 c_5
      · skip
        refine lv_iconst (v := 0) hx hb d_M_search_53 (by decide) ?_
        refine lv_goto (tgt := 60) hx hb d_M_search_54 (by decide) ?_
        refine lv_istore (lv' := [(5, .int 0), (4, .int (f_M_elem ys d n)), (3, .int (-1)), (0, .ref h0), (1, .int (nI d)), (2, .int (nI n))]) hx hb d_M_search_60 hl (by decide) rfl (fun ls hl => ?_)
        refine lv_iload_n hx hb d_M_search_62 rfl (lv_at hl 4 rfl) ?_
        refine lv_if_ne (tgt := 70) hx hb d_M_search_63 (by decide) (fun c_30 => ?_) (fun c_30 => ?_)
        · exact absurd c_5 c_30
        · skip
          refine lv_iload_n hx hb d_M_search_66 rfl (lv_at hl 5 rfl) ?_
          refine lv_goto (tgt := 73) hx hb d_M_search_67 (by decide) ?_
          refine lv_istore (lv' := [(6, .int (nI n)), (5, .int 0), (4, .int (f_M_elem ys d n)), (3, .int (-1)), (0, .ref h0), (1, .int (nI d)), (2, .int (nI n))]) hx hb d_M_search_73 hl (by decide) rfl (fun ls hl => ?_)
          refine lv_aload_n hx hb d_M_search_75 rfl (lv_at hl 4 rfl) ?_
          refine lv_iload hx hb d_M_search_76 (lv_at hl 1 rfl) ?_
          refine lv_iload hx hb d_M_search_78 (lv_at hl 0 rfl) ?_
          refine go_i (wr := []) (run_V hF (c_M_named g l _ h0 a1 a2 a3 a4 n2 n3 xs md hm ys td hy 0 n (by omega) (by omega)) k_M_named j_M_199 se_M_M_named (va_recv hK hP (ci := 4) (q0 := 0) rfl rfl) (cw_down G hP hD hS hA [0, 1, 2] rfl rfl) ⟨Nat.le_of_ble_eq_true rfl, Nat.le_of_ble_eq_true rfl⟩ rfl hl.1 (Nat.le_of_ble_eq_true rfl) d_M_search_80 ⟨(by first | exact Nat.le_of_ble_eq_true rfl | (dsimp only; omega) | omega), (by first | exact Nat.le_of_ble_eq_true rfl | (dsimp only; omega) | omega)⟩) hP hD hS hA [0, 1, 2] [] rfl rfl rfl (by decide) (fun r_31 w1 H locs hp hP hD hS => ?_)
          obtain ⟨rfl, xs_32, md_32, rfl, hm_32⟩ := hp
          have hP : va_P (gD g) classes [(h0, .inr (4, [.ref a1, .int (nI xs_32.length), .ref a2, .int n2, .ref a3, .ref a4, .int n3])), (a1, .inl (gI g, 200, .inl md_32)), (a2, .inl (gI g, 40, .inl td))] H := hP
          have hD : va_D A [(h0, .inr (4, [.ref a1, .int (nI xs_32.length), .ref a2, .int n2, .ref a3, .ref a4, .int n3])), (a1, .inl (gI g, 200, .inl md_32)), (a2, .inl (gI g, 40, .inl td))] := hD
          refine lv_istore_n (lv' := [(3, .int (zg_M_named ys 0 n 25)), (6, .int (nI n)), (5, .int 0), (4, .int (f_M_elem ys d n)), (0, .ref h0), (1, .int (nI d)), (2, .int (nI n))]) hx hb d_M_search_83 rfl hl (by decide) rfl (fun ls hl => ?_)
          refine lv_iload_n hx hb d_M_search_84 rfl (lv_at hl 0 rfl) ?_
          refine lv_if_lt (tgt := 94) hx hb d_M_search_85 (by decide) (fun c_33 => ?_) (fun c_33 => ?_)
          · skip
            refine lv_aload_n hx hb d_M_search_94 rfl (lv_at hl 4 rfl) ?_
            refine lv_iload hx hb d_M_search_95 (lv_at hl 2 rfl) ?_
            refine lv_iload hx hb d_M_search_97 (lv_at hl 1 rfl) ?_
            refine go_i (wr := []) (run_V hF (c_M_nested g l _ h0 a1 a2 a3 a4 n2 n3 xs_32 md_32 hm_32 ys td hy 0 n (by omega) (by omega)) k_M_nested j_M_203 se_M_M_nested (va_recv hK hP (ci := 4) (q0 := 0) rfl rfl) (cw_down G hP hD hS hA [0, 1, 2] rfl rfl) ⟨Nat.le_of_ble_eq_true rfl, Nat.le_of_ble_eq_true rfl⟩ rfl hl.1 (Nat.le_of_ble_eq_true rfl) d_M_search_99 ⟨(by first | exact Nat.le_of_ble_eq_true rfl | (dsimp only; omega) | omega), (by first | exact Nat.le_of_ble_eq_true rfl | (dsimp only; omega) | omega)⟩) hP hD hS hA [0, 1, 2] [] rfl rfl rfl (by decide) (fun r_34 w1 H locs hp hP hD hS => ?_)
            obtain ⟨rfl, xs_35, md_35, rfl, hm_35⟩ := hp
            have hP : va_P (gD g) classes [(h0, .inr (4, [.ref a1, .int (nI xs_35.length), .ref a2, .int n2, .ref a3, .ref a4, .int n3])), (a1, .inl (gI g, 200, .inl md_35)), (a2, .inl (gI g, 40, .inl td))] H := hP
            have hD : va_D A [(h0, .inr (4, [.ref a1, .int (nI xs_35.length), .ref a2, .int n2, .ref a3, .ref a4, .int n3])), (a1, .inl (gI g, 200, .inl md_35)), (a2, .inl (gI g, 40, .inl td))] := hD
            refine lv_if_ne (tgt := 107) hx hb d_M_search_102 (by decide) (fun c_36 => ?_) (fun c_36 => ?_)
            · skip
              refine lv_iload_n hx hb d_M_search_107 rfl (lv_at hl 0 rfl) ?_
              refine lv_if_lt (tgt := 119) hx hb d_M_search_108 (by decide) (fun c_37 => ?_) (fun c_37 => ?_)
              · skip
                refine lv_goto (tgt := 171) hx hb d_M_search_119 (by decide) ?_
                refine lv_iload_n hx hb d_M_search_171 rfl (lv_at hl 0 rfl) ?_
                refine lv_if_ge (tgt := 178) hx hb d_M_search_172 (by decide) (fun c_38 => ?_) (fun c_38 => ?_)
                · skip
                  refine lv_iload_n hx hb d_M_search_178 rfl (lv_at hl 5 rfl) ?_
                  refine lv_iconst (v := 2) hx hb d_M_search_179 (by decide) ?_
                  refine lv_icmp_le (tgt := 188) hx hb d_M_search_180 (by decide) (fun c_39 => ?_) (fun c_39 => ?_)
                  · skip
                    refine lv_bipush (v := 40) hx hb d_M_search_188 (by decide) ?_
                    refine lv_iload_n hx hb d_M_search_190 rfl (lv_at hl 5 rfl) ?_
                    refine lv_imul hx hb d_M_search_191 ?_
                    refine lv_iload_n hx hb d_M_search_192 rfl (lv_at hl 0 rfl) ?_
                    refine lv_iadd hx hb d_M_search_193 ?_
                    exact ret_i hx hb hr hlk (hP.sub (ws' := [(h0, .inr (4, [.ref a1, .int (nI xs_35.length), .ref a2, .int n2, .ref a3, .ref a4, .int n3])), (a1, .inl (gI g, 200, .inl md_35)), (a2, .inl (gI g, 40, .inl td))]) [0, 1, 2] rfl) (hD.sub (ws' := [(h0, .inr (4, [.ref a1, .int (nI xs_35.length), .ref a2, .int n2, .ref a3, .ref a4, .int n3])), (a1, .inl (gI g, 200, .inl md_35)), (a2, .inl (gI g, 40, .inl td))]) [0, 1, 2] rfl rfl) hS (nar_i _) ⟨by rw [f_M_search, if_neg c_1, if_pos c_5, if_pos c_33, if_neg c_36, if_pos c_38, if_pos c_39], _, _, rfl, hm_35⟩ (by first | exact Nat.le_of_ble_eq_true rfl | (dsimp only; omega) | omega) (by first | exact Nat.le_of_ble_eq_true rfl | (dsimp only; omega) | omega) d_M_search_194
                  · skip
                    refine lv_bipush (v := (-3)) hx hb d_M_search_183 (by decide) ?_
                    refine lv_goto (tgt := 194) hx hb d_M_search_185 (by decide) ?_
                    exact ret_i hx hb hr hlk (hP.sub (ws' := [(h0, .inr (4, [.ref a1, .int (nI xs_35.length), .ref a2, .int n2, .ref a3, .ref a4, .int n3])), (a1, .inl (gI g, 200, .inl md_35)), (a2, .inl (gI g, 40, .inl td))]) [0, 1, 2] rfl) (hD.sub (ws' := [(h0, .inr (4, [.ref a1, .int (nI xs_35.length), .ref a2, .int n2, .ref a3, .ref a4, .int n3])), (a1, .inl (gI g, 200, .inl md_35)), (a2, .inl (gI g, 40, .inl td))]) [0, 1, 2] rfl rfl) hS (nar_i _) ⟨by rw [f_M_search, if_neg c_1, if_pos c_5, if_pos c_33, if_neg c_36, if_pos c_38, if_neg c_39], _, _, rfl, hm_35⟩ (by first | exact Nat.le_of_ble_eq_true rfl | (dsimp only; omega) | omega) (by first | exact Nat.le_of_ble_eq_true rfl | (dsimp only; omega) | omega) d_M_search_194
                · skip
                  refine lv_bipush (v := (-4)) hx hb d_M_search_175 (by decide) ?_
                  exact ret_i hx hb hr hlk (hP.sub (ws' := [(h0, .inr (4, [.ref a1, .int (nI xs_35.length), .ref a2, .int n2, .ref a3, .ref a4, .int n3])), (a1, .inl (gI g, 200, .inl md_35)), (a2, .inl (gI g, 40, .inl td))]) [0, 1, 2] rfl) (hD.sub (ws' := [(h0, .inr (4, [.ref a1, .int (nI xs_35.length), .ref a2, .int n2, .ref a3, .ref a4, .int n3])), (a1, .inl (gI g, 200, .inl md_35)), (a2, .inl (gI g, 40, .inl td))]) [0, 1, 2] rfl rfl) hS (nar_i _) ⟨by rw [f_M_search, if_neg c_1, if_pos c_5, if_pos c_33, if_neg c_36, if_neg c_38], _, _, rfl, hm_35⟩ (by first | exact Nat.le_of_ble_eq_true rfl | (dsimp only; omega) | omega) (by first | exact Nat.le_of_ble_eq_true rfl | (dsimp only; omega) | omega) d_M_search_177
              · exact absurd c_33 c_37
            · skip
              refine lv_iconst (v := (-1)) hx hb d_M_search_105 (by decide) ?_
              exact ret_i hx hb hr hlk (hP.sub (ws' := [(h0, .inr (4, [.ref a1, .int (nI xs_35.length), .ref a2, .int n2, .ref a3, .ref a4, .int n3])), (a1, .inl (gI g, 200, .inl md_35)), (a2, .inl (gI g, 40, .inl td))]) [0, 1, 2] rfl) (hD.sub (ws' := [(h0, .inr (4, [.ref a1, .int (nI xs_35.length), .ref a2, .int n2, .ref a3, .ref a4, .int n3])), (a1, .inl (gI g, 200, .inl md_35)), (a2, .inl (gI g, 40, .inl td))]) [0, 1, 2] rfl rfl) hS (nar_i _) ⟨by rw [f_M_search, if_neg c_1, if_pos c_5, if_pos c_33, if_pos c_36], _, _, rfl, hm_35⟩ (by first | exact Nat.le_of_ble_eq_true rfl | (dsimp only; omega) | omega) (by first | exact Nat.le_of_ble_eq_true rfl | (dsimp only; omega) | omega) d_M_search_106
          · skip
            refine lv_iload_n hx hb d_M_search_88 rfl (lv_at hl 0 rfl) ?_
            refine lv_bipush (v := 11) hx hb d_M_search_89 (by decide) ?_
            refine lv_icmp_le (tgt := 107) hx hb d_M_search_91 (by decide) (fun c_40 => ?_) (fun c_40 => ?_)
            · skip
              refine lv_iload_n hx hb d_M_search_107 rfl (lv_at hl 0 rfl) ?_
              refine lv_if_lt (tgt := 119) hx hb d_M_search_108 (by decide) (fun c_41 => ?_) (fun c_41 => ?_)
              · exact absurd c_41 c_33
              · skip
                refine lv_iload_n hx hb d_M_search_111 rfl (lv_at hl 0 rfl) ?_
                refine lv_bipush (v := 9) hx hb d_M_search_112 (by decide) ?_
                refine lv_icmp_ge (tgt := 119) hx hb d_M_search_114 (by decide) (fun c_42 => ?_) (fun c_42 => ?_)
                · skip
                  refine lv_goto (tgt := 171) hx hb d_M_search_119 (by decide) ?_
                  refine lv_iload_n hx hb d_M_search_171 rfl (lv_at hl 0 rfl) ?_
                  refine lv_if_ge (tgt := 178) hx hb d_M_search_172 (by decide) (fun c_43 => ?_) (fun c_43 => ?_)
                  · skip
                    refine lv_iload_n hx hb d_M_search_178 rfl (lv_at hl 5 rfl) ?_
                    refine lv_iconst (v := 2) hx hb d_M_search_179 (by decide) ?_
                    refine lv_icmp_le (tgt := 188) hx hb d_M_search_180 (by decide) (fun c_44 => ?_) (fun c_44 => ?_)
                    · skip
                      refine lv_bipush (v := 40) hx hb d_M_search_188 (by decide) ?_
                      refine lv_iload_n hx hb d_M_search_190 rfl (lv_at hl 5 rfl) ?_
                      refine lv_imul hx hb d_M_search_191 ?_
                      refine lv_iload_n hx hb d_M_search_192 rfl (lv_at hl 0 rfl) ?_
                      refine lv_iadd hx hb d_M_search_193 ?_
                      exact ret_i hx hb hr hlk (hP.sub (ws' := [(h0, .inr (4, [.ref a1, .int (nI xs_32.length), .ref a2, .int n2, .ref a3, .ref a4, .int n3])), (a1, .inl (gI g, 200, .inl md_32)), (a2, .inl (gI g, 40, .inl td))]) [0, 1, 2] rfl) (hD.sub (ws' := [(h0, .inr (4, [.ref a1, .int (nI xs_32.length), .ref a2, .int n2, .ref a3, .ref a4, .int n3])), (a1, .inl (gI g, 200, .inl md_32)), (a2, .inl (gI g, 40, .inl td))]) [0, 1, 2] rfl rfl) hS (nar_i _) ⟨by rw [f_M_search, if_neg c_1, if_pos c_5, if_neg c_33, if_pos c_40, if_pos c_42, if_pos c_43, if_pos c_44], _, _, rfl, hm_32⟩ (by first | exact Nat.le_of_ble_eq_true rfl | (dsimp only; omega) | omega) (by first | exact Nat.le_of_ble_eq_true rfl | (dsimp only; omega) | omega) d_M_search_194
                    · skip
                      refine lv_bipush (v := (-3)) hx hb d_M_search_183 (by decide) ?_
                      refine lv_goto (tgt := 194) hx hb d_M_search_185 (by decide) ?_
                      exact ret_i hx hb hr hlk (hP.sub (ws' := [(h0, .inr (4, [.ref a1, .int (nI xs_32.length), .ref a2, .int n2, .ref a3, .ref a4, .int n3])), (a1, .inl (gI g, 200, .inl md_32)), (a2, .inl (gI g, 40, .inl td))]) [0, 1, 2] rfl) (hD.sub (ws' := [(h0, .inr (4, [.ref a1, .int (nI xs_32.length), .ref a2, .int n2, .ref a3, .ref a4, .int n3])), (a1, .inl (gI g, 200, .inl md_32)), (a2, .inl (gI g, 40, .inl td))]) [0, 1, 2] rfl rfl) hS (nar_i _) ⟨by rw [f_M_search, if_neg c_1, if_pos c_5, if_neg c_33, if_pos c_40, if_pos c_42, if_pos c_43, if_neg c_44], _, _, rfl, hm_32⟩ (by first | exact Nat.le_of_ble_eq_true rfl | (dsimp only; omega) | omega) (by first | exact Nat.le_of_ble_eq_true rfl | (dsimp only; omega) | omega) d_M_search_194
                  · skip
                    refine lv_bipush (v := (-4)) hx hb d_M_search_175 (by decide) ?_
                    exact ret_i hx hb hr hlk (hP.sub (ws' := [(h0, .inr (4, [.ref a1, .int (nI xs_32.length), .ref a2, .int n2, .ref a3, .ref a4, .int n3])), (a1, .inl (gI g, 200, .inl md_32)), (a2, .inl (gI g, 40, .inl td))]) [0, 1, 2] rfl) (hD.sub (ws' := [(h0, .inr (4, [.ref a1, .int (nI xs_32.length), .ref a2, .int n2, .ref a3, .ref a4, .int n3])), (a1, .inl (gI g, 200, .inl md_32)), (a2, .inl (gI g, 40, .inl td))]) [0, 1, 2] rfl rfl) hS (nar_i _) ⟨by rw [f_M_search, if_neg c_1, if_pos c_5, if_neg c_33, if_pos c_40, if_pos c_42, if_neg c_43], _, _, rfl, hm_32⟩ (by first | exact Nat.le_of_ble_eq_true rfl | (dsimp only; omega) | omega) (by first | exact Nat.le_of_ble_eq_true rfl | (dsimp only; omega) | omega) d_M_search_177
                · skip
                  refine lv_iconst (v := (-1)) hx hb d_M_search_117 (by decide) ?_
                  refine lv_istore_n (lv' := [(3, .int (-1)), (6, .int (nI n)), (5, .int 0), (4, .int (f_M_elem ys d n)), (0, .ref h0), (1, .int (nI d)), (2, .int (nI n))]) hx hb d_M_search_118 rfl hl (by decide) rfl (fun ls hl => ?_)
                  refine lv_goto (tgt := 171) hx hb d_M_search_119 (by decide) ?_
                  refine lv_iload_n hx hb d_M_search_171 rfl (lv_at hl 0 rfl) ?_
                  refine lv_if_ge (tgt := 178) hx hb d_M_search_172 (by decide) (fun c_45 => ?_) (fun c_45 => ?_)
                  · exact absurd c_45 (by decide)
                  · skip
                    refine lv_bipush (v := (-4)) hx hb d_M_search_175 (by decide) ?_
                    exact ret_i hx hb hr hlk (hP.sub (ws' := [(h0, .inr (4, [.ref a1, .int (nI xs_32.length), .ref a2, .int n2, .ref a3, .ref a4, .int n3])), (a1, .inl (gI g, 200, .inl md_32)), (a2, .inl (gI g, 40, .inl td))]) [0, 1, 2] rfl) (hD.sub (ws' := [(h0, .inr (4, [.ref a1, .int (nI xs_32.length), .ref a2, .int n2, .ref a3, .ref a4, .int n3])), (a1, .inl (gI g, 200, .inl md_32)), (a2, .inl (gI g, 40, .inl td))]) [0, 1, 2] rfl rfl) hS (nar_i _) ⟨by rw [f_M_search, if_neg c_1, if_pos c_5, if_neg c_33, if_pos c_40, if_neg c_42], _, _, rfl, hm_32⟩ (by first | exact Nat.le_of_ble_eq_true rfl | (dsimp only; omega) | omega) (by first | exact Nat.le_of_ble_eq_true rfl | (dsimp only; omega) | omega) d_M_search_177
            · skip
              refine lv_aload_n hx hb d_M_search_94 rfl (lv_at hl 4 rfl) ?_
              refine lv_iload hx hb d_M_search_95 (lv_at hl 2 rfl) ?_
              refine lv_iload hx hb d_M_search_97 (lv_at hl 1 rfl) ?_
              refine go_i (wr := []) (run_V hF (c_M_nested g l _ h0 a1 a2 a3 a4 n2 n3 xs_32 md_32 hm_32 ys td hy 0 n (by omega) (by omega)) k_M_nested j_M_203 se_M_M_nested (va_recv hK hP (ci := 4) (q0 := 0) rfl rfl) (cw_down G hP hD hS hA [0, 1, 2] rfl rfl) ⟨Nat.le_of_ble_eq_true rfl, Nat.le_of_ble_eq_true rfl⟩ rfl hl.1 (Nat.le_of_ble_eq_true rfl) d_M_search_99 ⟨(by first | exact Nat.le_of_ble_eq_true rfl | (dsimp only; omega) | omega), (by first | exact Nat.le_of_ble_eq_true rfl | (dsimp only; omega) | omega)⟩) hP hD hS hA [0, 1, 2] [] rfl rfl rfl (by decide) (fun r_46 w1 H locs hp hP hD hS => ?_)
              obtain ⟨rfl, xs_47, md_47, rfl, hm_47⟩ := hp
              have hP : va_P (gD g) classes [(h0, .inr (4, [.ref a1, .int (nI xs_47.length), .ref a2, .int n2, .ref a3, .ref a4, .int n3])), (a1, .inl (gI g, 200, .inl md_47)), (a2, .inl (gI g, 40, .inl td))] H := hP
              have hD : va_D A [(h0, .inr (4, [.ref a1, .int (nI xs_47.length), .ref a2, .int n2, .ref a3, .ref a4, .int n3])), (a1, .inl (gI g, 200, .inl md_47)), (a2, .inl (gI g, 40, .inl td))] := hD
              refine lv_if_ne (tgt := 107) hx hb d_M_search_102 (by decide) (fun c_48 => ?_) (fun c_48 => ?_)
              · skip
                refine lv_iload_n hx hb d_M_search_107 rfl (lv_at hl 0 rfl) ?_
                refine lv_if_lt (tgt := 119) hx hb d_M_search_108 (by decide) (fun c_49 => ?_) (fun c_49 => ?_)
                · exact absurd c_49 c_33
                · skip
                  refine lv_iload_n hx hb d_M_search_111 rfl (lv_at hl 0 rfl) ?_
                  refine lv_bipush (v := 9) hx hb d_M_search_112 (by decide) ?_
                  refine lv_icmp_ge (tgt := 119) hx hb d_M_search_114 (by decide) (fun c_50 => ?_) (fun c_50 => ?_)
                  · skip
                    refine lv_goto (tgt := 171) hx hb d_M_search_119 (by decide) ?_
                    refine lv_iload_n hx hb d_M_search_171 rfl (lv_at hl 0 rfl) ?_
                    refine lv_if_ge (tgt := 178) hx hb d_M_search_172 (by decide) (fun c_51 => ?_) (fun c_51 => ?_)
                    · skip
                      refine lv_iload_n hx hb d_M_search_178 rfl (lv_at hl 5 rfl) ?_
                      refine lv_iconst (v := 2) hx hb d_M_search_179 (by decide) ?_
                      refine lv_icmp_le (tgt := 188) hx hb d_M_search_180 (by decide) (fun c_52 => ?_) (fun c_52 => ?_)
                      · skip
                        refine lv_bipush (v := 40) hx hb d_M_search_188 (by decide) ?_
                        refine lv_iload_n hx hb d_M_search_190 rfl (lv_at hl 5 rfl) ?_
                        refine lv_imul hx hb d_M_search_191 ?_
                        refine lv_iload_n hx hb d_M_search_192 rfl (lv_at hl 0 rfl) ?_
                        refine lv_iadd hx hb d_M_search_193 ?_
                        exact ret_i hx hb hr hlk (hP.sub (ws' := [(h0, .inr (4, [.ref a1, .int (nI xs_47.length), .ref a2, .int n2, .ref a3, .ref a4, .int n3])), (a1, .inl (gI g, 200, .inl md_47)), (a2, .inl (gI g, 40, .inl td))]) [0, 1, 2] rfl) (hD.sub (ws' := [(h0, .inr (4, [.ref a1, .int (nI xs_47.length), .ref a2, .int n2, .ref a3, .ref a4, .int n3])), (a1, .inl (gI g, 200, .inl md_47)), (a2, .inl (gI g, 40, .inl td))]) [0, 1, 2] rfl rfl) hS (nar_i _) ⟨by rw [f_M_search, if_neg c_1, if_pos c_5, if_neg c_33, if_neg c_40, if_neg c_48, if_pos c_50, if_pos c_51, if_pos c_52], _, _, rfl, hm_47⟩ (by first | exact Nat.le_of_ble_eq_true rfl | (dsimp only; omega) | omega) (by first | exact Nat.le_of_ble_eq_true rfl | (dsimp only; omega) | omega) d_M_search_194
                      · skip
                        refine lv_bipush (v := (-3)) hx hb d_M_search_183 (by decide) ?_
                        refine lv_goto (tgt := 194) hx hb d_M_search_185 (by decide) ?_
                        exact ret_i hx hb hr hlk (hP.sub (ws' := [(h0, .inr (4, [.ref a1, .int (nI xs_47.length), .ref a2, .int n2, .ref a3, .ref a4, .int n3])), (a1, .inl (gI g, 200, .inl md_47)), (a2, .inl (gI g, 40, .inl td))]) [0, 1, 2] rfl) (hD.sub (ws' := [(h0, .inr (4, [.ref a1, .int (nI xs_47.length), .ref a2, .int n2, .ref a3, .ref a4, .int n3])), (a1, .inl (gI g, 200, .inl md_47)), (a2, .inl (gI g, 40, .inl td))]) [0, 1, 2] rfl rfl) hS (nar_i _) ⟨by rw [f_M_search, if_neg c_1, if_pos c_5, if_neg c_33, if_neg c_40, if_neg c_48, if_pos c_50, if_pos c_51, if_neg c_52], _, _, rfl, hm_47⟩ (by first | exact Nat.le_of_ble_eq_true rfl | (dsimp only; omega) | omega) (by first | exact Nat.le_of_ble_eq_true rfl | (dsimp only; omega) | omega) d_M_search_194
                    · skip
                      refine lv_bipush (v := (-4)) hx hb d_M_search_175 (by decide) ?_
                      exact ret_i hx hb hr hlk (hP.sub (ws' := [(h0, .inr (4, [.ref a1, .int (nI xs_47.length), .ref a2, .int n2, .ref a3, .ref a4, .int n3])), (a1, .inl (gI g, 200, .inl md_47)), (a2, .inl (gI g, 40, .inl td))]) [0, 1, 2] rfl) (hD.sub (ws' := [(h0, .inr (4, [.ref a1, .int (nI xs_47.length), .ref a2, .int n2, .ref a3, .ref a4, .int n3])), (a1, .inl (gI g, 200, .inl md_47)), (a2, .inl (gI g, 40, .inl td))]) [0, 1, 2] rfl rfl) hS (nar_i _) ⟨by rw [f_M_search, if_neg c_1, if_pos c_5, if_neg c_33, if_neg c_40, if_neg c_48, if_pos c_50, if_neg c_51], _, _, rfl, hm_47⟩ (by first | exact Nat.le_of_ble_eq_true rfl | (dsimp only; omega) | omega) (by first | exact Nat.le_of_ble_eq_true rfl | (dsimp only; omega) | omega) d_M_search_177
                  · skip
                    refine lv_iconst (v := (-1)) hx hb d_M_search_117 (by decide) ?_
                    refine lv_istore_n (lv' := [(3, .int (-1)), (6, .int (nI n)), (5, .int 0), (4, .int (f_M_elem ys d n)), (0, .ref h0), (1, .int (nI d)), (2, .int (nI n))]) hx hb d_M_search_118 rfl hl (by decide) rfl (fun ls hl => ?_)
                    refine lv_goto (tgt := 171) hx hb d_M_search_119 (by decide) ?_
                    refine lv_iload_n hx hb d_M_search_171 rfl (lv_at hl 0 rfl) ?_
                    refine lv_if_ge (tgt := 178) hx hb d_M_search_172 (by decide) (fun c_53 => ?_) (fun c_53 => ?_)
                    · exact absurd c_53 (by decide)
                    · skip
                      refine lv_bipush (v := (-4)) hx hb d_M_search_175 (by decide) ?_
                      exact ret_i hx hb hr hlk (hP.sub (ws' := [(h0, .inr (4, [.ref a1, .int (nI xs_47.length), .ref a2, .int n2, .ref a3, .ref a4, .int n3])), (a1, .inl (gI g, 200, .inl md_47)), (a2, .inl (gI g, 40, .inl td))]) [0, 1, 2] rfl) (hD.sub (ws' := [(h0, .inr (4, [.ref a1, .int (nI xs_47.length), .ref a2, .int n2, .ref a3, .ref a4, .int n3])), (a1, .inl (gI g, 200, .inl md_47)), (a2, .inl (gI g, 40, .inl td))]) [0, 1, 2] rfl rfl) hS (nar_i _) ⟨by rw [f_M_search, if_neg c_1, if_pos c_5, if_neg c_33, if_neg c_40, if_neg c_48, if_neg c_50], _, _, rfl, hm_47⟩ (by first | exact Nat.le_of_ble_eq_true rfl | (dsimp only; omega) | omega) (by first | exact Nat.le_of_ble_eq_true rfl | (dsimp only; omega) | omega) d_M_search_177
              · skip
                refine lv_iconst (v := (-1)) hx hb d_M_search_105 (by decide) ?_
                exact ret_i hx hb hr hlk (hP.sub (ws' := [(h0, .inr (4, [.ref a1, .int (nI xs_47.length), .ref a2, .int n2, .ref a3, .ref a4, .int n3])), (a1, .inl (gI g, 200, .inl md_47)), (a2, .inl (gI g, 40, .inl td))]) [0, 1, 2] rfl) (hD.sub (ws' := [(h0, .inr (4, [.ref a1, .int (nI xs_47.length), .ref a2, .int n2, .ref a3, .ref a4, .int n3])), (a1, .inl (gI g, 200, .inl md_47)), (a2, .inl (gI g, 40, .inl td))]) [0, 1, 2] rfl rfl) hS (nar_i _) ⟨by rw [f_M_search, if_neg c_1, if_pos c_5, if_neg c_33, if_neg c_40, if_pos c_48], _, _, rfl, hm_47⟩ (by first | exact Nat.le_of_ble_eq_true rfl | (dsimp only; omega) | omega) (by first | exact Nat.le_of_ble_eq_true rfl | (dsimp only; omega) | omega) d_M_search_106
  · skip
    refine lv_iload_n hx hb d_M_search_2 rfl (lv_at hl 2 rfl) ?_
    refine lv_if_eq (tgt := 37) hx hb d_M_search_3 (by decide) (fun c_54 => ?_) (fun c_54 => ?_)
    · skip
      refine lv_iconst (v := 1) hx hb d_M_search_37 (by decide) ?_
      refine lv_goto (tgt := 42) hx hb d_M_search_38 (by decide) ?_
      rw [show (f_M_elem ys d n) = 1 by rw [f_M_elem, if_pos c_54]] at kJ
      exact kJ
    · skip
      refine lv_iload_n hx hb d_M_search_6 rfl (lv_at hl 3 rfl) ?_
      refine lv_iload_n hx hb d_M_search_7 rfl (lv_at hl 2 rfl) ?_
      refine lv_isub hx hb d_M_search_8 ?_
      refine tp_i (show nI n - nI d = nI (n - d) from pk_sub hdn) ?_
      refine lv_iconst (v := 2) hx hb d_M_search_9 (by decide) ?_
      refine lv_icmp_le (tgt := 41) hx hb d_M_search_10 (by decide) (fun c_55 => ?_) (fun c_55 => ?_)
      · skip
        refine lv_iconst (v := 0) hx hb d_M_search_41 (by decide) ?_
        rw [show (f_M_elem ys d n) = 0 by rw [f_M_elem, if_neg c_54, if_pos c_55]] at kJ
        exact kJ
      · skip
        refine lv_aload_n hx hb d_M_search_13 rfl (lv_at hl 1 rfl) ?_
        refine va_get (D := gD g) (ci := 4) (v := .ref a2) (C := R_M) (T := F_M) (N := 7) hx hb hF.2.2.2.2 in_M hF.2.2.2.1 hK hP 0 rfl rfl 2 (by decide) (hF.2.2.2.2 _ fl_M_13) (fun _ h9 => h9) rfl d_M_search_14 ?_
        refine lv_iload_n hx hb d_M_search_17 rfl (lv_at hl 2 rfl) ?_
        have hg2 : 2 < n - d := by rcases Nat.lt_or_ge 2 (n - d) with z | z; exact z; exact absurd (nI_le (b := 2) z (by decide)) c_55
        refine va_iald hx hb hK hP 2 0 rfl rfl (vp_in_nI (n := d) (N := 40) (by omega) (by decide)) d_M_search_18 ?_
        refine tp_i (show td (nI d).toNatClampNeg = ys.getD d 0 by rw [nI_clamp (by omega)]; exact hy.2 _ (by omega)) ?_
        refine lv_bipush (v := 76) hx hb d_M_search_19 (by decide) ?_
        refine lv_icmp_ne (tgt := 41) hx hb d_M_search_21 (by decide) (fun c_56 => ?_) (fun c_56 => ?_)
        · skip
          refine lv_iconst (v := 0) hx hb d_M_search_41 (by decide) ?_
          rw [show (f_M_elem ys d n) = 0 by rw [f_M_elem, if_neg c_54, if_neg c_55, if_neg c_56]] at kJ
          exact kJ
        · skip
          refine lv_aload_n hx hb d_M_search_24 rfl (lv_at hl 1 rfl) ?_
          refine va_get (D := gD g) (ci := 4) (v := .ref a2) (C := R_M) (T := F_M) (N := 7) hx hb hF.2.2.2.2 in_M hF.2.2.2.1 hK hP 0 rfl rfl 2 (by decide) (hF.2.2.2.2 _ fl_M_13) (fun _ h9 => h9) rfl d_M_search_25 ?_
          refine lv_iload_n hx hb d_M_search_28 rfl (lv_at hl 3 rfl) ?_
          refine lv_iconst (v := 1) hx hb d_M_search_29 (by decide) ?_
          refine lv_isub hx hb d_M_search_30 ?_
          refine tp_i (show nI n - 1 = nI (n - 1) from pk_sub (b := 1) (by omega)) ?_
          refine va_iald hx hb hK hP 2 0 rfl rfl (vp_in_nI (n := (n - 1)) (N := 40) (by omega) (by decide)) d_M_search_31 ?_
          refine tp_i (show td (nI (n - 1)).toNatClampNeg = ys.getD (n - 1) 0 by rw [nI_clamp (by omega)]; exact hy.2 _ (by omega)) ?_
          refine lv_bipush (v := 59) hx hb d_M_search_32 (by decide) ?_
          refine lv_icmp_ne (tgt := 41) hx hb d_M_search_34 (by decide) (fun c_57 => ?_) (fun c_57 => ?_)
          · skip
            refine lv_iconst (v := 0) hx hb d_M_search_41 (by decide) ?_
            rw [show (f_M_elem ys d n) = 0 by rw [f_M_elem, if_neg c_54, if_neg c_55, if_pos c_56, if_neg c_57]] at kJ
            exact kJ
          · skip
            refine lv_iconst (v := 1) hx hb d_M_search_37 (by decide) ?_
            refine lv_goto (tgt := 42) hx hb d_M_search_38 (by decide) ?_
            rw [show (f_M_elem ys d n) = 1 by rw [f_M_elem, if_neg c_54, if_neg c_55, if_pos c_56, if_pos c_57]] at kJ
            exact kJ
