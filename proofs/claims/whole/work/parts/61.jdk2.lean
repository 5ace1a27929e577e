def gc (q cp : Nat) : Nat := if q ≤ cp then 0 else 1
def gs (q cp : Nat) : Nat := if q ≤ cp then 0 else sb_cap q cp
theorem gs_le (q cp : Nat) : gs q cp ≤ 2 * (sb_cap q cp - cp) := by
  unfold gs sb_cap
  split
  · omega
  · split <;> omega
theorem gc_le (q cp : Nat) (h : 16 ≤ cp) : 18 * gc q cp ≤ sb_cap q cp - cp := by
  unfold gc sb_cap
  split
  · omega
  · split <;> omega
theorem cap_le (q cp : Nat) (h : q ≤ 70) (hc : cp ≤ 142) : sb_cap q cp ≤ 142 := by
  unfold sb_cap
  split
  · omega
  · split <;> omega
theorem cap_new {q cp : Nat} (h : cp < q) (hq : q ≤ 1000) : nI cp + (if nI (q - cp) < nI (cp + 2) then nI (cp + 2) else nI (q - cp)) = nI (sb_cap q cp) := by
  by_cases h2 : q - cp < cp + 2
  · rw [if_pos (nI_lt h2 (by omega)), nI_add]
    congr 1
    unfold sb_cap
    rw [if_neg (by omega), if_neg (by omega)]
    omega
  · rw [if_neg (nI_nlt (by omega) (by omega)), nI_add]
    congr 1
    unfold sb_cap
    rw [if_neg (show ¬ q ≤ cp by omega)]
    split <;> omega
set_option maxRecDepth 100000 in
theorem k_As_newLength : ck y_As_newLength b_As_newLength 4 (some .int) 3 (.static y_As_newLength) := ⟨tk_of (List.mem_of_getElem? (i := 163) rfl) rfl, tk_of (List.mem_of_getElem? (i := 162) (by decide +kernel)) rfl, tk_of (List.mem_of_getElem? (i := 45) (by decide +kernel)) rfl, by decide +kernel⟩
theorem jm_As_194 : Cond.methodLink R_As 194 Lib.Math.max.name ∈ tk := tk_of (List.mem_of_getElem? (i := 164) (by decide +kernel)) rfl
theorem jms_max : Cond.static Lib.Math.max.name ∈ tk := tk_of (List.mem_of_getElem? (i := 165) (by decide +kernel)) rfl
theorem jmi : Cond.initialized "java/lang/Math" ∈ tk := tk_of (List.mem_of_getElem? (i := 46) (by decide +kernel)) rfl
set_option maxRecDepth 100000 in
theorem jmc_max : Cond.code Lib.Math.max.name Lib.Math.max.code 2 (some .int) ∈ tk := tk_of (List.mem_of_getElem? (i := 166) rfl) rfl
theorem cn_As_200 : Cond.constant R_As 200 2147483639 ∈ tk := tk_of (List.mem_of_getElem? (i := 167) (by decide +kernel)) rfl
set_option maxHeartbeats 4000000 in
set_option maxRecDepth 100000 in
theorem c_As_newLength (g : gT) (l : Launch) (sz : Nat) (q cp : Nat) (hq : cp < q) (hq2 : q ≤ 1000) : Mg g l y_As_newLength b_As_newLength 4 (some .int) 1 21 0 0 [.int (nI cp), .int (nI (q - cp)), .int (nI (cp + 2))] [] sz (qI g (fun r w1 => r = nI (sb_cap q cp) ∧ w1 = [])) := by
  refine mg_of (by decide) (Nat.le_of_ble_eq_true rfl) ?_
  intro p e s m below meth c ls A hx hb hF hr hlk hnm hA G hP hD hS hl
  have hK := G.2.1
  have hN := G.1
  have hl : lv_has ls 4 [(0, .int (nI cp)), (1, .int (nI (q - cp))), (2, .int (nI (cp + 2)))] := hl
  have hcg := sb_cap_ge q cp
  have hcl : sb_cap q cp ≤ 2002 := by unfold sb_cap; split <;> (try split) <;> omega
  have hz1 : ¬ nI (sb_cap q cp) ≤ 0 := nI_nle (by omega) (by omega)
  have hz2 : ¬ (2147483639 : Int32) < nI (sb_cap q cp) := nI_nlt (a := 2147483639) (b := sb_cap q cp) (by omega) (by decide)
  refine lv_iload_n hx hb d_As_newLength_0 rfl (lv_at hl 0 rfl) ?_
  refine lv_iload_n hx hb d_As_newLength_1 rfl (lv_at hl 1 rfl) ?_
  refine lv_iload_n hx hb d_As_newLength_2 rfl (lv_at hl 2 rfl) ?_
  refine va_mmax hx hb (hF.2.2.1.trans hl.1.symm) hF.2.2.2.1 (hF.2.2.2.2 _ jm_As_194) (hF.2.2.2.2 _ jms_max) (hF.2.2.2.2 _ jmi) (hF.2.2.2.2 _ jmc_max) (Nat.le_of_ble_eq_true rfl) (Nat.le_of_ble_eq_true rfl) (by first | exact Nat.le_of_ble_eq_true rfl | (dsimp only; omega) | omega) (by first | exact Nat.le_of_ble_eq_true rfl | (dsimp only; omega) | omega) d_As_newLength_3 ?_
  refine lv_iadd hx hb d_As_newLength_6 ?_
  refine tp_i (show ((nI cp) + (if (nI (q - cp)) < (nI (cp + 2)) then (nI (cp + 2)) else (nI (q - cp)))) = (nI (sb_cap q cp)) from cap_new hq hq2) ?_
  refine lv_istore_n (lv' := [(3, .int (nI (sb_cap q cp))), (0, .int (nI cp)), (1, .int (nI (q - cp))), (2, .int (nI (cp + 2)))]) hx hb d_As_newLength_7 rfl hl (by decide) rfl (fun ls hl => ?_)
  refine lv_iconst (v := 0) hx hb d_As_newLength_8 (by decide) ?_
  refine lv_iload_n hx hb d_As_newLength_9 rfl (lv_at hl 0 rfl) ?_
  refine lv_icmp_ge (tgt := 21) hx hb d_As_newLength_10 (by decide) (fun c_1 => absurd c_1 hz1) (fun c_1 => ?_)
  refine lv_iload_n hx hb d_As_newLength_13 rfl (lv_at hl 0 rfl) ?_
  refine lv_ldc (v := 2147483639) hx hb hF.2.2.2.1 (hF.2.2.2.2 _ cn_As_200) d_As_newLength_14 ?_
  refine lv_icmp_gt (tgt := 21) hx hb d_As_newLength_16 (by decide) (fun c_2 => absurd c_2 hz2) (fun c_2 => ?_)
  refine lv_iload_n hx hb d_As_newLength_19 rfl (lv_at hl 0 rfl) ?_
  exact ret_i hx hb hr hlk hP hD hS (nar_i _) ⟨rfl, rfl⟩ (by first | exact Nat.le_of_ble_eq_true rfl | (dsimp only; omega) | omega) (by first | exact Nat.le_of_ble_eq_true rfl | (dsimp only; omega) | omega) d_As_newLength_20
set_option maxRecDepth 100000 in
theorem k_A_newCapacity : ck y_A_newCapacity b_A_newCapacity 6 (some .int) 1 (.instanceMethod y_A_newCapacity) := ⟨tk_of (List.mem_of_getElem? (i := 160) rfl) rfl, tk_of (List.mem_of_getElem? (i := 159) (by decide +kernel)) rfl, tk_of (List.mem_of_getElem? (i := 38) (by decide +kernel)) rfl, by decide +kernel⟩
theorem fl_A_15 : Cond.fieldLink R_A 15 R_A "value" "[B" ∈ tk := tk_of (List.mem_of_getElem? (i := 84) (by decide +kernel)) rfl
theorem j_A_114 : Cond.methodLink R_A 114 y_As_newLength ∈ tk := tk_of (List.mem_of_getElem? (i := 161) (by decide +kernel)) rfl
theorem cn_A_39 : Cond.constant R_A 39 2147483647 ∈ tk := tk_of (List.mem_of_getElem? (i := 171) (by decide +kernel)) rfl
set_option maxHeartbeats 4000000 in
set_option maxRecDepth 100000 in
theorem c_A_newCapacity (g : gT) (l : Launch) (sz : Nat) (b v n cp : Nat) (ml : Int32) (a : Nat → Int32) (q : Nat) (hq : cp < q) (hq2 : q ≤ 1000) : Mg g l y_A_newCapacity b_A_newCapacity 6 (some .int) 2 44 0 0 [.ref b, .int (nI q)] [(b, .inr (3, [.ref v, .int 0, .int ml, .int (nI n)])), (v, .inl (gB g, cp, .inl a))] sz (qI g (fun r w1 => r = nI (sb_cap q cp) ∧ w1 = [(b, .inr (3, [.ref v, .int 0, .int ml, .int (nI n)])), (v, .inl (gB g, cp, .inl a))])) := by
  refine mg_of (by decide) (Nat.le_of_ble_eq_true rfl) ?_
  intro p e s m below meth c ls A hx hb hF hr hlk hnm hA G hP hD hS hl
  have hK := G.2.1
  have hN := G.1
  have hl : lv_has ls 6 [(0, .ref b), (1, .int (nI q))] := hl
  have hcg := sb_cap_ge q cp
  have hcl : sb_cap q cp ≤ 2002 := by unfold sb_cap; split <;> (try split) <;> omega
  have hz3 : nI (sb_cap q cp) = 2147483647 → sb_cap q cp = 2147483647 := fun h => (nI_eq (b := 2147483647) (by omega) (by decide)).mp h
  refine lv_aload_n hx hb d_A_newCapacity_0 rfl (lv_at hl 0 rfl) ?_
  refine va_get (D := gD g) (ci := 3) (v := .ref v) (C := R_SB) (T := F_SB) (N := 4) hx hb hF.2.2.2.2 in_SB hF.2.2.2.1 hK hP 0 rfl rfl 0 (by decide) (hF.2.2.2.2 _ fl_A_15) (fun _ h9 => h9) rfl d_A_newCapacity_1 ?_
  refine va_alen hx hb hK hP 1 1 rfl rfl (v := nI cp) rfl d_A_newCapacity_4 ?_
  refine lv_istore_n (lv' := [(2, .int (nI cp)), (0, .ref b), (1, .int (nI q))]) hx hb d_A_newCapacity_5 rfl hl (by decide) rfl (fun ls hl => ?_)
  refine lv_iload_n hx hb d_A_newCapacity_6 rfl (lv_at hl 2 rfl) ?_
  refine lv_aload_n hx hb d_A_newCapacity_7 rfl (lv_at hl 1 rfl) ?_
  refine va_get (D := gD g) (ci := 3) (v := .int 0) (C := R_SB) (T := F_SB) (N := 4) hx hb hF.2.2.2.2 in_SB hF.2.2.2.1 hK hP 0 rfl rfl 1 (by decide) (hF.2.2.2.2 _ fl_A_22) (fun _ h9 => h9) rfl d_A_newCapacity_8 ?_
  refine lv_ishl hx hb d_A_newCapacity_11 ?_
  refine tp_i (sb_shl0 _) ?_
  refine lv_istore_n (lv' := [(3, .int (nI q)), (2, .int (nI cp)), (0, .ref b), (1, .int (nI q))]) hx hb d_A_newCapacity_12 rfl hl (by decide) rfl (fun ls hl => ?_)
  refine lv_iload_n hx hb d_A_newCapacity_13 rfl (lv_at hl 0 rfl) ?_
  refine lv_iload_n hx hb d_A_newCapacity_14 rfl (lv_at hl 1 rfl) ?_
  refine lv_isub hx hb d_A_newCapacity_15 ?_
  refine tp_i (show ((nI q) - (nI cp)) = (nI (q - cp)) from pk_sub (by omega)) ?_
  refine lv_istore (lv' := [(4, .int (nI (q - cp))), (3, .int (nI q)), (2, .int (nI cp)), (0, .ref b), (1, .int (nI q))]) hx hb d_A_newCapacity_16 hl (by decide) rfl (fun ls hl => ?_)
  refine lv_iload_n hx hb d_A_newCapacity_18 rfl (lv_at hl 2 rfl) ?_
  refine lv_iload hx hb d_A_newCapacity_19 (lv_at hl 0 rfl) ?_
  refine lv_iload_n hx hb d_A_newCapacity_21 rfl (lv_at hl 2 rfl) ?_
  refine lv_iconst (v := 2) hx hb d_A_newCapacity_22 (by decide) ?_
  refine lv_aload_n hx hb d_A_newCapacity_23 rfl (lv_at hl 3 rfl) ?_
  refine va_get (D := gD g) (ci := 3) (v := .int 0) (C := R_SB) (T := F_SB) (N := 4) hx hb hF.2.2.2.2 in_SB hF.2.2.2.1 hK hP 0 rfl rfl 1 (by decide) (hF.2.2.2.2 _ fl_A_22) (fun _ h9 => h9) rfl d_A_newCapacity_24 ?_
  refine lv_ishl hx hb d_A_newCapacity_27 ?_
  refine tp_i (sb_shl0 _) ?_
  refine lv_iadd hx hb d_A_newCapacity_28 ?_
  refine tp_i (show ((nI cp) + 2) = (nI (cp + 2)) from nI_add cp 2) ?_
  refine go_i (wr := [(b, .inr (3, [.ref v, .int 0, .int ml, .int (nI n)])), (v, .inl (gB g, cp, .inl a))]) (run_S hF (c_As_newLength g l _ q cp hq hq2) k_As_newLength j_A_114 (cw_down G hP hD hS hA [] rfl rfl) ⟨Nat.le_of_ble_eq_true rfl, Nat.le_of_ble_eq_true rfl⟩ rfl hl.1 (Nat.le_of_ble_eq_true rfl) d_A_newCapacity_29 ⟨(by first | exact Nat.le_of_ble_eq_true rfl | (dsimp only; omega) | omega), (by first | exact Nat.le_of_ble_eq_true rfl | (dsimp only; omega) | omega)⟩) hP hD hS hA [] [0, 1] rfl rfl rfl (by decide) (fun r_1 w1 H locs hp hP hD hS => ?_)
  obtain ⟨rfl, rfl⟩ := hp
  have hP : va_P (gD g) classes [(b, .inr (3, [.ref v, .int 0, .int ml, .int (nI n)])), (v, .inl (gB g, cp, .inl a))] H := hP
  have hD : va_D A [(b, .inr (3, [.ref v, .int 0, .int ml, .int (nI n)])), (v, .inl (gB g, cp, .inl a))] := hD
  refine lv_istore (lv' := [(5, .int (nI (sb_cap q cp))), (4, .int (nI (q - cp))), (3, .int (nI q)), (2, .int (nI cp)), (0, .ref b), (1, .int (nI q))]) hx hb d_A_newCapacity_32 hl (by decide) rfl (fun ls hl => ?_)
  refine lv_iload hx hb d_A_newCapacity_34 (lv_at hl 0 rfl) ?_
  refine lv_ldc (v := 2147483647) hx hb hF.2.2.2.1 (hF.2.2.2.2 _ cn_A_39) d_A_newCapacity_36 ?_
  refine lv_icmp_ne (tgt := 51) hx hb d_A_newCapacity_38 (by decide) (fun c_2 => ?_) (fun c_2 => absurd (hz3 c_2) (by omega))
  refine lv_iload hx hb d_A_newCapacity_51 (lv_at hl 0 rfl) ?_
  refine lv_aload_n hx hb d_A_newCapacity_53 rfl (lv_at hl 4 rfl) ?_
  refine va_get (D := gD g) (ci := 3) (v := .int 0) (C := R_SB) (T := F_SB) (N := 4) hx hb hF.2.2.2.2 in_SB hF.2.2.2.1 hK hP 0 rfl rfl 1 (by decide) (hF.2.2.2.2 _ fl_A_22) (fun _ h9 => h9) rfl d_A_newCapacity_54 ?_
  refine lv_ishr hx hb d_A_newCapacity_57 ?_
  refine tp_i (sb_shr0 _) ?_
  exact ret_i hx hb hr hlk (hP.sub (ws' := [(b, .inr (3, [.ref v, .int 0, .int ml, .int (nI n)])), (v, .inl (gB g, cp, .inl a))]) [0, 1] rfl) (hD.sub (ws' := [(b, .inr (3, [.ref v, .int 0, .int ml, .int (nI n)])), (v, .inl (gB g, cp, .inl a))]) [0, 1] rfl rfl) hS (nar_i _) ⟨rfl, rfl⟩ (by first | exact Nat.le_of_ble_eq_true rfl | (dsimp only; omega) | omega) (by first | exact Nat.le_of_ble_eq_true rfl | (dsimp only; omega) | omega) d_A_newCapacity_58
