def f_P_isSlot (t : Int32) : Int32 := (if t < 0 then 0 else (if 8 ≤ t then 0 else 1))
set_option maxRecDepth 100000 in
theorem z_P_isSlot (t : Int32) : f_P_isSlot t = 0 ∨ f_P_isSlot t = 1 := by
  unfold f_P_isSlot
  repeat' first | with_reducible refine z_ite ?_ ?_ | with_reducible exact Or.inl rfl | with_reducible exact Or.inr rfl
set_option maxRecDepth 100000 in
theorem k_P_isSlot : ck y_P_isSlot b_P_isSlot 1 (some .boolean) 1 (.static y_P_isSlot) := ⟨tk_of (List.mem_of_getElem? (i := 637) rfl) rfl, tk_of (List.mem_of_getElem? (i := 636) (by decide +kernel)) rfl, tk_of (List.mem_of_getElem? (i := 36) (by decide +kernel)) rfl, by decide +kernel⟩
set_option maxHeartbeats 4000000 in
set_option maxRecDepth 100000 in
theorem c_P_isSlot (l : Launch) (t : Int32) : pmI l y_P_isSlot b_P_isSlot 1 .boolean 0 0 [.int t] (fun r => r = f_P_isSlot t) := by
  refine pm_of (by decide) (Nat.le_of_ble_eq_true rfl) ?_
  intro p e s m below meth c ls hx hb hF hr hlk hN hl
  have hl : lv_has ls 1 [(0, .int t)] := hl
  refine lv_iload_n hx hb d_P_isSlot_0 rfl (lv_at hl 0 rfl) ?_
  refine lv_if_lt (tgt := 14) hx hb d_P_isSlot_1 (by decide) (fun c_1 => ?_) (fun c_1 => ?_)
  · skip
    refine lv_iconst (v := 0) hx hb d_P_isSlot_14 (by decide) ?_
    exact pm_ret hx hb hr hlk (by decide) (by rw [f_P_isSlot, if_pos c_1]) d_P_isSlot_15
  · skip
    refine lv_iload_n hx hb d_P_isSlot_4 rfl (lv_at hl 0 rfl) ?_
    refine lv_bipush (v := 8) hx hb d_P_isSlot_5 (by decide) ?_
    refine lv_icmp_ge (tgt := 14) hx hb d_P_isSlot_7 (by decide) (fun c_2 => ?_) (fun c_2 => ?_)
    · skip
      refine lv_iconst (v := 0) hx hb d_P_isSlot_14 (by decide) ?_
      exact pm_ret hx hb hr hlk (by decide) (by rw [f_P_isSlot, if_neg c_1, if_pos c_2]) d_P_isSlot_15
    · skip
      refine lv_iconst (v := 1) hx hb d_P_isSlot_10 (by decide) ?_
      refine lv_goto (tgt := 15) hx hb d_P_isSlot_11 (by decide) ?_
      exact pm_ret hx hb hr hlk (by decide) (by rw [f_P_isSlot, if_neg c_1, if_neg c_2]) d_P_isSlot_15
def f_P_isAlwaysAlike (t : Int32) : Int32 := (if t = (-2) then 1 else (if t = 11 then 1 else (if t = 14 then 1 else (if t = 16 then 1 else (if t = 17 then 1 else (if t = 23 then 1 else (if t = 24 then 1 else 0)))))))
set_option maxRecDepth 100000 in
theorem z_P_isAlwaysAlike (t : Int32) : f_P_isAlwaysAlike t = 0 ∨ f_P_isAlwaysAlike t = 1 := by
  unfold f_P_isAlwaysAlike
  repeat' first | with_reducible refine z_ite ?_ ?_ | with_reducible exact Or.inl rfl | with_reducible exact Or.inr rfl
set_option maxRecDepth 100000 in
theorem k_P_isAlwaysAlike : ck y_P_isAlwaysAlike b_P_isAlwaysAlike 1 (some .boolean) 1 (.static y_P_isAlwaysAlike) := ⟨tk_of (List.mem_of_getElem? (i := 663) rfl) rfl, tk_of (List.mem_of_getElem? (i := 662) (by decide +kernel)) rfl, tk_of (List.mem_of_getElem? (i := 36) (by decide +kernel)) rfl, by decide +kernel⟩
set_option maxHeartbeats 4000000 in
set_option maxRecDepth 100000 in
theorem c_P_isAlwaysAlike (l : Launch) (t : Int32) : pmI l y_P_isAlwaysAlike b_P_isAlwaysAlike 1 .boolean 0 0 [.int t] (fun r => r = f_P_isAlwaysAlike t) := by
  refine pm_of (by decide) (Nat.le_of_ble_eq_true rfl) ?_
  intro p e s m below meth c ls hx hb hF hr hlk hN hl
  have hl : lv_has ls 1 [(0, .int t)] := hl
  refine lv_iload_n hx hb d_P_isAlwaysAlike_0 rfl (lv_at hl 0 rfl) ?_
  by_cases c_1 : t = (-2)
  · refine lv_lookup (tgt := 68) (off := 67) hx hb d_P_isAlwaysAlike_1 (by decide) (by rw [c_1]; decide) (by decide) ?_
    refine lv_iconst (v := 1) hx hb d_P_isAlwaysAlike_68 (by decide) ?_
    exact pm_ret hx hb hr hlk (by decide) (by rw [f_P_isAlwaysAlike, if_pos c_1]) d_P_isAlwaysAlike_69
  by_cases c_2 : t = 11
  · refine lv_lookup (tgt := 68) (off := 67) hx hb d_P_isAlwaysAlike_1 (by decide) (by rw [c_2]; decide) (by decide) ?_
    refine lv_iconst (v := 1) hx hb d_P_isAlwaysAlike_68 (by decide) ?_
    exact pm_ret hx hb hr hlk (by decide) (by rw [f_P_isAlwaysAlike, if_neg c_1, if_pos c_2]) d_P_isAlwaysAlike_69
  by_cases c_3 : t = 14
  · refine lv_lookup (tgt := 68) (off := 67) hx hb d_P_isAlwaysAlike_1 (by decide) (by rw [c_3]; decide) (by decide) ?_
    refine lv_iconst (v := 1) hx hb d_P_isAlwaysAlike_68 (by decide) ?_
    exact pm_ret hx hb hr hlk (by decide) (by rw [f_P_isAlwaysAlike, if_neg c_1, if_neg c_2, if_pos c_3]) d_P_isAlwaysAlike_69
  by_cases c_4 : t = 16
  · refine lv_lookup (tgt := 68) (off := 67) hx hb d_P_isAlwaysAlike_1 (by decide) (by rw [c_4]; decide) (by decide) ?_
    refine lv_iconst (v := 1) hx hb d_P_isAlwaysAlike_68 (by decide) ?_
    exact pm_ret hx hb hr hlk (by decide) (by rw [f_P_isAlwaysAlike, if_neg c_1, if_neg c_2, if_neg c_3, if_pos c_4]) d_P_isAlwaysAlike_69
  by_cases c_5 : t = 17
  · refine lv_lookup (tgt := 68) (off := 67) hx hb d_P_isAlwaysAlike_1 (by decide) (by rw [c_5]; decide) (by decide) ?_
    refine lv_iconst (v := 1) hx hb d_P_isAlwaysAlike_68 (by decide) ?_
    exact pm_ret hx hb hr hlk (by decide) (by rw [f_P_isAlwaysAlike, if_neg c_1, if_neg c_2, if_neg c_3, if_neg c_4, if_pos c_5]) d_P_isAlwaysAlike_69
  by_cases c_6 : t = 23
  · refine lv_lookup (tgt := 68) (off := 67) hx hb d_P_isAlwaysAlike_1 (by decide) (by rw [c_6]; decide) (by decide) ?_
    refine lv_iconst (v := 1) hx hb d_P_isAlwaysAlike_68 (by decide) ?_
    exact pm_ret hx hb hr hlk (by decide) (by rw [f_P_isAlwaysAlike, if_neg c_1, if_neg c_2, if_neg c_3, if_neg c_4, if_neg c_5, if_pos c_6]) d_P_isAlwaysAlike_69
  by_cases c_7 : t = 24
  · refine lv_lookup (tgt := 68) (off := 67) hx hb d_P_isAlwaysAlike_1 (by decide) (by rw [c_7]; decide) (by decide) ?_
    refine lv_iconst (v := 1) hx hb d_P_isAlwaysAlike_68 (by decide) ?_
    exact pm_ret hx hb hr hlk (by decide) (by rw [f_P_isAlwaysAlike, if_neg c_1, if_neg c_2, if_neg c_3, if_neg c_4, if_neg c_5, if_neg c_6, if_pos c_7]) d_P_isAlwaysAlike_69
  refine lv_lookup (tgt := 70) (off := 69) hx hb d_P_isAlwaysAlike_1 (by decide) ((lv_osw c_1 (by decide)).trans ((lv_osw c_2 (by decide)).trans ((lv_osw c_3 (by decide)).trans ((lv_osw c_4 (by decide)).trans ((lv_osw c_5 (by decide)).trans ((lv_osw c_6 (by decide)).trans ((lv_osw c_7 (by decide)).trans (rfl)))))))) (by decide) ?_
  refine lv_iconst (v := 0) hx hb d_P_isAlwaysAlike_70 (by decide) ?_
  exact pm_ret hx hb hr hlk (by decide) (by rw [f_P_isAlwaysAlike, if_neg c_1, if_neg c_2, if_neg c_3, if_neg c_4, if_neg c_5, if_neg c_6, if_neg c_7]) d_P_isAlwaysAlike_71
def f_P_flag (t : Int32) (k : Int32) : Int32 := (if (f_B_isType t) = 0 then 0 else (if k = 0 then (f_B_isArray t) else (if k = 1 then (f_B_isPrimitive t) else (if k = 2 then (f_B_isInterface t) else (if k = 3 then (if t = 20 then 1 else 0) else (if k = 4 then (if t = 16 then 1 else 0) else (if k = 5 then (if t = 14 then 1 else 0) else (if k = 6 then (if t = 13 then 1 else (if t = 16 then 1 else 0)) else (if k = 7 then (f_B_isNameless t) else (if k = 8 then (if t = 23 then 1 else 0) else (if k = 9 then (f_B_isMember t) else (if k = 10 then (f_B_isInMethod t) else 0))))))))))))
set_option maxRecDepth 100000 in
theorem z_P_flag (t : Int32) (k : Int32) : f_P_flag t k = 0 ∨ f_P_flag t k = 1 := by
  unfold f_P_flag
  repeat' first | with_reducible refine z_ite ?_ ?_ | with_reducible exact z_B_isArray _ | with_reducible exact z_B_isInMethod _ | with_reducible exact z_B_isInterface _ | with_reducible exact z_B_isMember _ | with_reducible exact z_B_isNameless _ | with_reducible exact z_B_isPrimitive _ | with_reducible exact z_B_isType _ | with_reducible exact Or.inl rfl | with_reducible exact Or.inr rfl
set_option maxRecDepth 100000 in
theorem k_P_flag : ck y_P_flag b_P_flag 3 (some .boolean) 2 (.instanceMethod y_P_flag) := ⟨tk_of (List.mem_of_getElem? (i := 457) rfl) rfl, tk_of (List.mem_of_getElem? (i := 455) (by decide +kernel)) rfl, tk_of (List.mem_of_getElem? (i := 36) (by decide +kernel)) rfl, by decide +kernel⟩
theorem j_P_35 : Cond.methodLinkNest R_P 35 y_B_isType R_P ∈ nw_l := nw_of (List.mem_of_getElem? (i := 133) (by decide +kernel)) rfl
theorem j_P_41 : Cond.methodLinkNest R_P 41 y_B_isArray R_P ∈ nw_l := nw_of (List.mem_of_getElem? (i := 458) (by decide +kernel)) rfl
theorem j_P_44 : Cond.methodLinkNest R_P 44 y_B_isPrimitive R_P ∈ nw_l := nw_of (List.mem_of_getElem? (i := 459) (by decide +kernel)) rfl
theorem j_P_47 : Cond.methodLinkNest R_P 47 y_B_isInterface R_P ∈ nw_l := nw_of (List.mem_of_getElem? (i := 460) (by decide +kernel)) rfl
theorem j_P_50 : Cond.methodLinkNest R_P 50 y_B_isNameless R_P ∈ nw_l := nw_of (List.mem_of_getElem? (i := 461) (by decide +kernel)) rfl
theorem j_P_53 : Cond.methodLinkNest R_P 53 y_B_isMember R_P ∈ nw_l := nw_of (List.mem_of_getElem? (i := 462) (by decide +kernel)) rfl
theorem j_P_56 : Cond.methodLinkNest R_P 56 y_B_isInMethod R_P ∈ nw_l := nw_of (List.mem_of_getElem? (i := 465) (by decide +kernel)) rfl
set_option maxHeartbeats 4000000 in
set_option maxRecDepth 100000 in
theorem c_P_flag (l : Launch) (h0 : Nat) (t : Int32) (k : Int32) : pmI l y_P_flag b_P_flag 3 .boolean 2 40 [.ref h0, .int t, .int k] (fun r => r = f_P_flag t k) := by
  refine pm_of (by decide) (Nat.le_of_ble_eq_true rfl) ?_
  intro p e s m below meth c ls hx hb hF hr hlk hN hl
  have hl : lv_has ls 3 [(0, .ref h0), (1, .int t), (2, .int k)] := hl
  refine lv_iload_n hx hb d_P_flag_0 rfl (lv_at hl 1 rfl) ?_
  refine pm_callNE hF hN (c_B_isType l t) k_B_isType j_P_35 ⟨Nat.le_of_ble_eq_true rfl, Nat.le_of_ble_eq_true rfl⟩ rfl hl.1 (Nat.le_of_ble_eq_true rfl) d_P_flag_1 ⟨Nat.le_refl _, Nat.le_refl _⟩ ?_
  refine lv_if_ne (tgt := 9) hx hb d_P_flag_4 (by decide) (fun c_2 => ?_) (fun c_2 => ?_)
  · skip
    refine lv_iload_n hx hb d_P_flag_9 rfl (lv_at hl 2 rfl) ?_
    by_cases c_3 : k = 0
    · refine lv_tableIn (tgt := 68) (off := 58) hx hb d_P_flag_10 (by rw [c_3]; decide) (by rw [c_3]; decide) (by rw [c_3]; decide) (by decide) ?_
      refine lv_iload_n hx hb d_P_flag_68 rfl (lv_at hl 1 rfl) ?_
      refine pm_callNE hF hN (c_B_isArray l t) k_B_isArray j_P_41 ⟨Nat.le_of_ble_eq_true rfl, Nat.le_of_ble_eq_true rfl⟩ rfl hl.1 (Nat.le_of_ble_eq_true rfl) d_P_flag_69 ⟨Nat.le_refl _, Nat.le_refl _⟩ ?_
      exact pm_ret hx hb hr hlk (nar_z (z_B_isArray t)) (by rw [f_P_flag, if_neg c_2, if_pos c_3]) d_P_flag_72
    by_cases c_5 : k = 1
    · refine lv_tableIn (tgt := 73) (off := 63) hx hb d_P_flag_10 (by rw [c_5]; decide) (by rw [c_5]; decide) (by rw [c_5]; decide) (by decide) ?_
      refine lv_iload_n hx hb d_P_flag_73 rfl (lv_at hl 1 rfl) ?_
      refine pm_callNE hF hN (c_B_isPrimitive l t) k_B_isPrimitive j_P_44 ⟨Nat.le_of_ble_eq_true rfl, Nat.le_of_ble_eq_true rfl⟩ rfl hl.1 (Nat.le_of_ble_eq_true rfl) d_P_flag_74 ⟨Nat.le_refl _, Nat.le_refl _⟩ ?_
      exact pm_ret hx hb hr hlk (nar_z (z_B_isPrimitive t)) (by rw [f_P_flag, if_neg c_2, if_neg c_3, if_pos c_5]) d_P_flag_77
    by_cases c_7 : k = 2
    · refine lv_tableIn (tgt := 78) (off := 68) hx hb d_P_flag_10 (by rw [c_7]; decide) (by rw [c_7]; decide) (by rw [c_7]; decide) (by decide) ?_
      refine lv_iload_n hx hb d_P_flag_78 rfl (lv_at hl 1 rfl) ?_
      refine pm_callNE hF hN (c_B_isInterface l t) k_B_isInterface j_P_47 ⟨Nat.le_of_ble_eq_true rfl, Nat.le_of_ble_eq_true rfl⟩ rfl hl.1 (Nat.le_of_ble_eq_true rfl) d_P_flag_79 ⟨Nat.le_refl _, Nat.le_refl _⟩ ?_
      exact pm_ret hx hb hr hlk (nar_z (z_B_isInterface t)) (by rw [f_P_flag, if_neg c_2, if_neg c_3, if_neg c_5, if_pos c_7]) d_P_flag_82
    by_cases c_9 : k = 3
    · refine lv_tableIn (tgt := 83) (off := 73) hx hb d_P_flag_10 (by rw [c_9]; decide) (by rw [c_9]; decide) (by rw [c_9]; decide) (by decide) ?_
      refine lv_iload_n hx hb d_P_flag_83 rfl (lv_at hl 1 rfl) ?_
      refine lv_bipush (v := 20) hx hb d_P_flag_84 (by decide) ?_
      refine lv_icmp_ne (tgt := 93) hx hb d_P_flag_86 (by decide) (fun c_10 => ?_) (fun c_10 => ?_)
      · skip
        refine lv_iconst (v := 0) hx hb d_P_flag_93 (by decide) ?_
        exact pm_ret hx hb hr hlk (by decide) (by rw [f_P_flag, if_neg c_2, if_neg c_3, if_neg c_5, if_neg c_7, if_pos c_9, if_neg c_10]) d_P_flag_94
      · skip
        refine lv_iconst (v := 1) hx hb d_P_flag_89 (by decide) ?_
        refine lv_goto (tgt := 94) hx hb d_P_flag_90 (by decide) ?_
        exact pm_ret hx hb hr hlk (by decide) (by rw [f_P_flag, if_neg c_2, if_neg c_3, if_neg c_5, if_neg c_7, if_pos c_9, if_pos c_10]) d_P_flag_94
    by_cases c_11 : k = 4
    · refine lv_tableIn (tgt := 95) (off := 85) hx hb d_P_flag_10 (by rw [c_11]; decide) (by rw [c_11]; decide) (by rw [c_11]; decide) (by decide) ?_
      refine lv_iload_n hx hb d_P_flag_95 rfl (lv_at hl 1 rfl) ?_
      refine lv_bipush (v := 16) hx hb d_P_flag_96 (by decide) ?_
      refine lv_icmp_ne (tgt := 105) hx hb d_P_flag_98 (by decide) (fun c_12 => ?_) (fun c_12 => ?_)
      · skip
        refine lv_iconst (v := 0) hx hb d_P_flag_105 (by decide) ?_
        exact pm_ret hx hb hr hlk (by decide) (by rw [f_P_flag, if_neg c_2, if_neg c_3, if_neg c_5, if_neg c_7, if_neg c_9, if_pos c_11, if_neg c_12]) d_P_flag_106
      · skip
        refine lv_iconst (v := 1) hx hb d_P_flag_101 (by decide) ?_
        refine lv_goto (tgt := 106) hx hb d_P_flag_102 (by decide) ?_
        exact pm_ret hx hb hr hlk (by decide) (by rw [f_P_flag, if_neg c_2, if_neg c_3, if_neg c_5, if_neg c_7, if_neg c_9, if_pos c_11, if_pos c_12]) d_P_flag_106
    by_cases c_13 : k = 5
    · refine lv_tableIn (tgt := 107) (off := 97) hx hb d_P_flag_10 (by rw [c_13]; decide) (by rw [c_13]; decide) (by rw [c_13]; decide) (by decide) ?_
      refine lv_iload_n hx hb d_P_flag_107 rfl (lv_at hl 1 rfl) ?_
      refine lv_bipush (v := 14) hx hb d_P_flag_108 (by decide) ?_
      refine lv_icmp_ne (tgt := 117) hx hb d_P_flag_110 (by decide) (fun c_14 => ?_) (fun c_14 => ?_)
      · skip
        refine lv_iconst (v := 0) hx hb d_P_flag_117 (by decide) ?_
        exact pm_ret hx hb hr hlk (by decide) (by rw [f_P_flag, if_neg c_2, if_neg c_3, if_neg c_5, if_neg c_7, if_neg c_9, if_neg c_11, if_pos c_13, if_neg c_14]) d_P_flag_118
      · skip
        refine lv_iconst (v := 1) hx hb d_P_flag_113 (by decide) ?_
        refine lv_goto (tgt := 118) hx hb d_P_flag_114 (by decide) ?_
        exact pm_ret hx hb hr hlk (by decide) (by rw [f_P_flag, if_neg c_2, if_neg c_3, if_neg c_5, if_neg c_7, if_neg c_9, if_neg c_11, if_pos c_13, if_pos c_14]) d_P_flag_118
    by_cases c_15 : k = 6
    · refine lv_tableIn (tgt := 119) (off := 109) hx hb d_P_flag_10 (by rw [c_15]; decide) (by rw [c_15]; decide) (by rw [c_15]; decide) (by decide) ?_
      refine lv_iload_n hx hb d_P_flag_119 rfl (lv_at hl 1 rfl) ?_
      refine lv_bipush (v := 13) hx hb d_P_flag_120 (by decide) ?_
      refine lv_icmp_eq (tgt := 131) hx hb d_P_flag_122 (by decide) (fun c_16 => ?_) (fun c_16 => ?_)
      · skip
        refine lv_iconst (v := 1) hx hb d_P_flag_131 (by decide) ?_
        refine lv_goto (tgt := 136) hx hb d_P_flag_132 (by decide) ?_
        exact pm_ret hx hb hr hlk (by decide) (by rw [f_P_flag, if_neg c_2, if_neg c_3, if_neg c_5, if_neg c_7, if_neg c_9, if_neg c_11, if_neg c_13, if_pos c_15, if_pos c_16]) d_P_flag_136
      · skip
        refine lv_iload_n hx hb d_P_flag_125 rfl (lv_at hl 1 rfl) ?_
        refine lv_bipush (v := 16) hx hb d_P_flag_126 (by decide) ?_
        refine lv_icmp_ne (tgt := 135) hx hb d_P_flag_128 (by decide) (fun c_17 => ?_) (fun c_17 => ?_)
        · skip
          refine lv_iconst (v := 0) hx hb d_P_flag_135 (by decide) ?_
          exact pm_ret hx hb hr hlk (by decide) (by rw [f_P_flag, if_neg c_2, if_neg c_3, if_neg c_5, if_neg c_7, if_neg c_9, if_neg c_11, if_neg c_13, if_pos c_15, if_neg c_16, if_neg c_17]) d_P_flag_136
        · skip
          refine lv_iconst (v := 1) hx hb d_P_flag_131 (by decide) ?_
          refine lv_goto (tgt := 136) hx hb d_P_flag_132 (by decide) ?_
          exact pm_ret hx hb hr hlk (by decide) (by rw [f_P_flag, if_neg c_2, if_neg c_3, if_neg c_5, if_neg c_7, if_neg c_9, if_neg c_11, if_neg c_13, if_pos c_15, if_neg c_16, if_pos c_17]) d_P_flag_136
    by_cases c_18 : k = 7
    · refine lv_tableIn (tgt := 137) (off := 127) hx hb d_P_flag_10 (by rw [c_18]; decide) (by rw [c_18]; decide) (by rw [c_18]; decide) (by decide) ?_
      refine lv_iload_n hx hb d_P_flag_137 rfl (lv_at hl 1 rfl) ?_
      refine pm_callNE hF hN (c_B_isNameless l t) k_B_isNameless j_P_50 ⟨Nat.le_of_ble_eq_true rfl, Nat.le_of_ble_eq_true rfl⟩ rfl hl.1 (Nat.le_of_ble_eq_true rfl) d_P_flag_138 ⟨Nat.le_refl _, Nat.le_refl _⟩ ?_
      exact pm_ret hx hb hr hlk (nar_z (z_B_isNameless t)) (by rw [f_P_flag, if_neg c_2, if_neg c_3, if_neg c_5, if_neg c_7, if_neg c_9, if_neg c_11, if_neg c_13, if_neg c_15, if_pos c_18]) d_P_flag_141
    by_cases c_20 : k = 8
    · refine lv_tableIn (tgt := 142) (off := 132) hx hb d_P_flag_10 (by rw [c_20]; decide) (by rw [c_20]; decide) (by rw [c_20]; decide) (by decide) ?_
      refine lv_iload_n hx hb d_P_flag_142 rfl (lv_at hl 1 rfl) ?_
      refine lv_bipush (v := 23) hx hb d_P_flag_143 (by decide) ?_
      refine lv_icmp_ne (tgt := 152) hx hb d_P_flag_145 (by decide) (fun c_21 => ?_) (fun c_21 => ?_)
      · skip
        refine lv_iconst (v := 0) hx hb d_P_flag_152 (by decide) ?_
        exact pm_ret hx hb hr hlk (by decide) (by rw [f_P_flag, if_neg c_2, if_neg c_3, if_neg c_5, if_neg c_7, if_neg c_9, if_neg c_11, if_neg c_13, if_neg c_15, if_neg c_18, if_pos c_20, if_neg c_21]) d_P_flag_153
      · skip
        refine lv_iconst (v := 1) hx hb d_P_flag_148 (by decide) ?_
        refine lv_goto (tgt := 153) hx hb d_P_flag_149 (by decide) ?_
        exact pm_ret hx hb hr hlk (by decide) (by rw [f_P_flag, if_neg c_2, if_neg c_3, if_neg c_5, if_neg c_7, if_neg c_9, if_neg c_11, if_neg c_13, if_neg c_15, if_neg c_18, if_pos c_20, if_pos c_21]) d_P_flag_153
    by_cases c_22 : k = 9
    · refine lv_tableIn (tgt := 154) (off := 144) hx hb d_P_flag_10 (by rw [c_22]; decide) (by rw [c_22]; decide) (by rw [c_22]; decide) (by decide) ?_
      refine lv_iload_n hx hb d_P_flag_154 rfl (lv_at hl 1 rfl) ?_
      refine pm_callNE hF hN (c_B_isMember l t) k_B_isMember j_P_53 ⟨Nat.le_of_ble_eq_true rfl, Nat.le_of_ble_eq_true rfl⟩ rfl hl.1 (Nat.le_of_ble_eq_true rfl) d_P_flag_155 ⟨Nat.le_refl _, Nat.le_refl _⟩ ?_
      exact pm_ret hx hb hr hlk (nar_z (z_B_isMember t)) (by rw [f_P_flag, if_neg c_2, if_neg c_3, if_neg c_5, if_neg c_7, if_neg c_9, if_neg c_11, if_neg c_13, if_neg c_15, if_neg c_18, if_neg c_20, if_pos c_22]) d_P_flag_158
    by_cases c_24 : k = 10
    · refine lv_tableIn (tgt := 159) (off := 149) hx hb d_P_flag_10 (by rw [c_24]; decide) (by rw [c_24]; decide) (by rw [c_24]; decide) (by decide) ?_
      refine lv_iload_n hx hb d_P_flag_159 rfl (lv_at hl 1 rfl) ?_
      refine pm_callNE hF hN (c_B_isInMethod l t) k_B_isInMethod j_P_56 ⟨Nat.le_of_ble_eq_true rfl, Nat.le_of_ble_eq_true rfl⟩ rfl hl.1 (Nat.le_of_ble_eq_true rfl) d_P_flag_160 ⟨Nat.le_refl _, Nat.le_refl _⟩ ?_
      exact pm_ret hx hb hr hlk (nar_z (z_B_isInMethod t)) (by rw [f_P_flag, if_neg c_2, if_neg c_3, if_neg c_5, if_neg c_7, if_neg c_9, if_neg c_11, if_neg c_13, if_neg c_15, if_neg c_18, if_neg c_20, if_neg c_22, if_pos c_24]) d_P_flag_163
    refine lv_tableOut (tgt := 164) hx hb d_P_flag_10 (by have := lv_neT (a := 0) c_3 (by decide); have := lv_neT (a := 1) c_5 (by decide); have := lv_neT (a := 2) c_7 (by decide); have := lv_neT (a := 3) c_9 (by decide); have := lv_neT (a := 4) c_11 (by decide); have := lv_neT (a := 5) c_13 (by decide); have := lv_neT (a := 6) c_15 (by decide); have := lv_neT (a := 7) c_18 (by decide); have := lv_neT (a := 8) c_20 (by decide); have := lv_neT (a := 9) c_22 (by decide); have := lv_neT (a := 10) c_24 (by decide); omega) (by decide) ?_
    refine lv_iconst (v := 0) hx hb d_P_flag_164 (by decide) ?_
    exact pm_ret hx hb hr hlk (by decide) (by rw [f_P_flag, if_neg c_2, if_neg c_3, if_neg c_5, if_neg c_7, if_neg c_9, if_neg c_11, if_neg c_13, if_neg c_15, if_neg c_18, if_neg c_20, if_neg c_22, if_neg c_24]) d_P_flag_165
  · skip
    refine lv_iconst (v := 0) hx hb d_P_flag_7 (by decide) ?_
    exact pm_ret hx hb hr hlk (by decide) (by rw [f_P_flag, if_pos c_2]) d_P_flag_8
def f_P_number (t : Int32) (k : Int32) : Int32 := (if (f_B_isType t) = 0 then (-1) else (if k = 0 then (f_B_modifiers t) else (if k = 1 then (f_B_interfaceCount t) else (if k = 2 then (if t = 21 then 1 else 0) else (if k = 3 then (if t = 16 then 2 else (-2)) else (if k = 4 then (if t = 14 then 1 else (-2)) else (if k = 5 then (f_B_permitted t) else (if k = 6 then (f_B_memberCount t) else (if k = 7 then (f_B_nestSize t) else (-1))))))))))
set_option maxRecDepth 100000 in
theorem k_P_number : ck y_P_number b_P_number 3 (some .int) 2 (.instanceMethod y_P_number) := ⟨tk_of (List.mem_of_getElem? (i := 469) rfl) rfl, tk_of (List.mem_of_getElem? (i := 467) (by decide +kernel)) rfl, tk_of (List.mem_of_getElem? (i := 36) (by decide +kernel)) rfl, by decide +kernel⟩
theorem j_P_59 : Cond.methodLinkNest R_P 59 y_B_modifiers R_P ∈ nw_l := nw_of (List.mem_of_getElem? (i := 470) (by decide +kernel)) rfl
theorem j_P_62 : Cond.methodLinkNest R_P 62 y_B_interfaceCount R_P ∈ nw_l := nw_of (List.mem_of_getElem? (i := 471) (by decide +kernel)) rfl
theorem j_P_65 : Cond.methodLinkNest R_P 65 y_B_permitted R_P ∈ nw_l := nw_of (List.mem_of_getElem? (i := 474) (by decide +kernel)) rfl
theorem j_P_68 : Cond.methodLinkNest R_P 68 y_B_memberCount R_P ∈ nw_l := nw_of (List.mem_of_getElem? (i := 477) (by decide +kernel)) rfl
theorem j_P_71 : Cond.methodLinkNest R_P 71 y_B_nestSize R_P ∈ nw_l := nw_of (List.mem_of_getElem? (i := 480) (by decide +kernel)) rfl
set_option maxHeartbeats 4000000 in
set_option maxRecDepth 100000 in
theorem c_P_number (l : Launch) (h0 : Nat) (t : Int32) (k : Int32) : pmI l y_P_number b_P_number 3 .int 2 41 [.ref h0, .int t, .int k] (fun r => r = f_P_number t k) := by
  refine pm_of (by decide) (Nat.le_of_ble_eq_true rfl) ?_
  intro p e s m below meth c ls hx hb hF hr hlk hN hl
  have hl : lv_has ls 3 [(0, .ref h0), (1, .int t), (2, .int k)] := hl
  refine lv_iload_n hx hb d_P_number_0 rfl (lv_at hl 1 rfl) ?_
  refine pm_callNE hF hN (c_B_isType l t) k_B_isType j_P_35 ⟨Nat.le_of_ble_eq_true rfl, Nat.le_of_ble_eq_true rfl⟩ rfl hl.1 (Nat.le_of_ble_eq_true rfl) d_P_number_1 ⟨Nat.le_refl _, Nat.le_refl _⟩ ?_
  refine lv_if_ne (tgt := 9) hx hb d_P_number_4 (by decide) (fun c_2 => ?_) (fun c_2 => ?_)
  · skip
    refine lv_iload_n hx hb d_P_number_9 rfl (lv_at hl 2 rfl) ?_
    by_cases c_3 : k = 0
    · refine lv_tableIn (tgt := 56) (off := 46) hx hb d_P_number_10 (by rw [c_3]; decide) (by rw [c_3]; decide) (by rw [c_3]; decide) (by decide) ?_
      refine lv_iload_n hx hb d_P_number_56 rfl (lv_at hl 1 rfl) ?_
      refine pm_callNE hF hN (c_B_modifiers l t) k_B_modifiers j_P_59 ⟨Nat.le_of_ble_eq_true rfl, Nat.le_of_ble_eq_true rfl⟩ rfl hl.1 (Nat.le_of_ble_eq_true rfl) d_P_number_57 ⟨Nat.le_refl _, Nat.le_refl _⟩ ?_
      exact pm_ret hx hb hr hlk (nar_i _) (by rw [f_P_number, if_neg c_2, if_pos c_3]) d_P_number_60
    by_cases c_5 : k = 1
    · refine lv_tableIn (tgt := 61) (off := 51) hx hb d_P_number_10 (by rw [c_5]; decide) (by rw [c_5]; decide) (by rw [c_5]; decide) (by decide) ?_
      refine lv_iload_n hx hb d_P_number_61 rfl (lv_at hl 1 rfl) ?_
      refine pm_callNE hF hN (c_B_interfaceCount l t) k_B_interfaceCount j_P_62 ⟨Nat.le_of_ble_eq_true rfl, Nat.le_of_ble_eq_true rfl⟩ rfl hl.1 (Nat.le_of_ble_eq_true rfl) d_P_number_62 ⟨Nat.le_refl _, Nat.le_refl _⟩ ?_
      exact pm_ret hx hb hr hlk (nar_i _) (by rw [f_P_number, if_neg c_2, if_neg c_3, if_pos c_5]) d_P_number_65
    by_cases c_7 : k = 2
    · refine lv_tableIn (tgt := 66) (off := 56) hx hb d_P_number_10 (by rw [c_7]; decide) (by rw [c_7]; decide) (by rw [c_7]; decide) (by decide) ?_
      refine lv_iload_n hx hb d_P_number_66 rfl (lv_at hl 1 rfl) ?_
      refine lv_bipush (v := 21) hx hb d_P_number_67 (by decide) ?_
      refine lv_icmp_ne (tgt := 76) hx hb d_P_number_69 (by decide) (fun c_8 => ?_) (fun c_8 => ?_)
      · skip
        refine lv_iconst (v := 0) hx hb d_P_number_76 (by decide) ?_
        exact pm_ret hx hb hr hlk (nar_i _) (by rw [f_P_number, if_neg c_2, if_neg c_3, if_neg c_5, if_pos c_7, if_neg c_8]) d_P_number_77
      · skip
        refine lv_iconst (v := 1) hx hb d_P_number_72 (by decide) ?_
        refine lv_goto (tgt := 77) hx hb d_P_number_73 (by decide) ?_
        exact pm_ret hx hb hr hlk (nar_i _) (by rw [f_P_number, if_neg c_2, if_neg c_3, if_neg c_5, if_pos c_7, if_pos c_8]) d_P_number_77
    by_cases c_9 : k = 3
    · refine lv_tableIn (tgt := 78) (off := 68) hx hb d_P_number_10 (by rw [c_9]; decide) (by rw [c_9]; decide) (by rw [c_9]; decide) (by decide) ?_
      refine lv_iload_n hx hb d_P_number_78 rfl (lv_at hl 1 rfl) ?_
      refine lv_bipush (v := 16) hx hb d_P_number_79 (by decide) ?_
      refine lv_icmp_ne (tgt := 88) hx hb d_P_number_81 (by decide) (fun c_10 => ?_) (fun c_10 => ?_)
      · skip
        refine lv_bipush (v := (-2)) hx hb d_P_number_88 (by decide) ?_
        exact pm_ret hx hb hr hlk (nar_i _) (by rw [f_P_number, if_neg c_2, if_neg c_3, if_neg c_5, if_neg c_7, if_pos c_9, if_neg c_10]) d_P_number_90
      · skip
        refine lv_iconst (v := 2) hx hb d_P_number_84 (by decide) ?_
        refine lv_goto (tgt := 90) hx hb d_P_number_85 (by decide) ?_
        exact pm_ret hx hb hr hlk (nar_i _) (by rw [f_P_number, if_neg c_2, if_neg c_3, if_neg c_5, if_neg c_7, if_pos c_9, if_pos c_10]) d_P_number_90
    by_cases c_11 : k = 4
    · refine lv_tableIn (tgt := 91) (off := 81) hx hb d_P_number_10 (by rw [c_11]; decide) (by rw [c_11]; decide) (by rw [c_11]; decide) (by decide) ?_
      refine lv_iload_n hx hb d_P_number_91 rfl (lv_at hl 1 rfl) ?_
      refine lv_bipush (v := 14) hx hb d_P_number_92 (by decide) ?_
      refine lv_icmp_ne (tgt := 101) hx hb d_P_number_94 (by decide) (fun c_12 => ?_) (fun c_12 => ?_)
      · skip
        refine lv_bipush (v := (-2)) hx hb d_P_number_101 (by decide) ?_
        exact pm_ret hx hb hr hlk (nar_i _) (by rw [f_P_number, if_neg c_2, if_neg c_3, if_neg c_5, if_neg c_7, if_neg c_9, if_pos c_11, if_neg c_12]) d_P_number_103
      · skip
        refine lv_iconst (v := 1) hx hb d_P_number_97 (by decide) ?_
        refine lv_goto (tgt := 103) hx hb d_P_number_98 (by decide) ?_
        exact pm_ret hx hb hr hlk (nar_i _) (by rw [f_P_number, if_neg c_2, if_neg c_3, if_neg c_5, if_neg c_7, if_neg c_9, if_pos c_11, if_pos c_12]) d_P_number_103
    by_cases c_13 : k = 5
    · refine lv_tableIn (tgt := 104) (off := 94) hx hb d_P_number_10 (by rw [c_13]; decide) (by rw [c_13]; decide) (by rw [c_13]; decide) (by decide) ?_
      refine lv_iload_n hx hb d_P_number_104 rfl (lv_at hl 1 rfl) ?_
      refine pm_callNE hF hN (c_B_permitted l t) k_B_permitted j_P_65 ⟨Nat.le_of_ble_eq_true rfl, Nat.le_of_ble_eq_true rfl⟩ rfl hl.1 (Nat.le_of_ble_eq_true rfl) d_P_number_105 ⟨Nat.le_refl _, Nat.le_refl _⟩ ?_
      exact pm_ret hx hb hr hlk (nar_i _) (by rw [f_P_number, if_neg c_2, if_neg c_3, if_neg c_5, if_neg c_7, if_neg c_9, if_neg c_11, if_pos c_13]) d_P_number_108
    by_cases c_15 : k = 6
    · refine lv_tableIn (tgt := 109) (off := 99) hx hb d_P_number_10 (by rw [c_15]; decide) (by rw [c_15]; decide) (by rw [c_15]; decide) (by decide) ?_
      refine lv_iload_n hx hb d_P_number_109 rfl (lv_at hl 1 rfl) ?_
      refine pm_callNE hF hN (c_B_memberCount l t) k_B_memberCount j_P_68 ⟨Nat.le_of_ble_eq_true rfl, Nat.le_of_ble_eq_true rfl⟩ rfl hl.1 (Nat.le_of_ble_eq_true rfl) d_P_number_110 ⟨Nat.le_refl _, Nat.le_refl _⟩ ?_
      exact pm_ret hx hb hr hlk (nar_i _) (by rw [f_P_number, if_neg c_2, if_neg c_3, if_neg c_5, if_neg c_7, if_neg c_9, if_neg c_11, if_neg c_13, if_pos c_15]) d_P_number_113
    by_cases c_17 : k = 7
    · refine lv_tableIn (tgt := 114) (off := 104) hx hb d_P_number_10 (by rw [c_17]; decide) (by rw [c_17]; decide) (by rw [c_17]; decide) (by decide) ?_
      refine lv_iload_n hx hb d_P_number_114 rfl (lv_at hl 1 rfl) ?_
      refine pm_callNE hF hN (c_B_nestSize l t) k_B_nestSize j_P_71 ⟨Nat.le_of_ble_eq_true rfl, Nat.le_of_ble_eq_true rfl⟩ rfl hl.1 (Nat.le_of_ble_eq_true rfl) d_P_number_115 ⟨Nat.le_refl _, Nat.le_refl _⟩ ?_
      exact pm_ret hx hb hr hlk (nar_i _) (by rw [f_P_number, if_neg c_2, if_neg c_3, if_neg c_5, if_neg c_7, if_neg c_9, if_neg c_11, if_neg c_13, if_neg c_15, if_pos c_17]) d_P_number_118
    refine lv_tableOut (tgt := 119) hx hb d_P_number_10 (by have := lv_neT (a := 0) c_3 (by decide); have := lv_neT (a := 1) c_5 (by decide); have := lv_neT (a := 2) c_7 (by decide); have := lv_neT (a := 3) c_9 (by decide); have := lv_neT (a := 4) c_11 (by decide); have := lv_neT (a := 5) c_13 (by decide); have := lv_neT (a := 6) c_15 (by decide); have := lv_neT (a := 7) c_17 (by decide); omega) (by decide) ?_
    refine lv_iconst (v := (-1)) hx hb d_P_number_119 (by decide) ?_
    exact pm_ret hx hb hr hlk (nar_i _) (by rw [f_P_number, if_neg c_2, if_neg c_3, if_neg c_5, if_neg c_7, if_neg c_9, if_neg c_11, if_neg c_13, if_neg c_15, if_neg c_17]) d_P_number_120
  · skip
    refine lv_iconst (v := (-1)) hx hb d_P_number_7 (by decide) ?_
    exact pm_ret hx hb hr hlk (nar_i _) (by rw [f_P_number, if_pos c_2]) d_P_number_8
def f_P_related (t : Int32) (k : Int32) : Int32 := (if (f_B_isType t) = 0 then (-1) else (if k = 0 then (f_B_classUp t) else (if k = 1 then (if (f_B_isArray t) = 0 then (-2) else (t - 40)) else (if k = 2 then (f_B_standsIn t) else (if k = 3 then (if (f_B_isMember t) = 0 then (-2) else (f_B_standsIn t)) else (if k = 4 then (if (f_B_isInNest t) = 0 then t else 11) else (if k = 5 then (f_B_arrayOf t 1) else (-1))))))))
set_option maxRecDepth 100000 in
theorem k_P_related : ck y_P_related b_P_related 3 (some .int) 2 (.instanceMethod y_P_related) := ⟨tk_of (List.mem_of_getElem? (i := 489) rfl) rfl, tk_of (List.mem_of_getElem? (i := 487) (by decide +kernel)) rfl, tk_of (List.mem_of_getElem? (i := 36) (by decide +kernel)) rfl, by decide +kernel⟩
theorem j_P_74 : Cond.methodLinkNest R_P 74 y_B_classUp R_P ∈ nw_l := nw_of (List.mem_of_getElem? (i := 490) (by decide +kernel)) rfl
theorem j_P_77 : Cond.methodLinkNest R_P 77 y_B_standsIn R_P ∈ nw_l := nw_of (List.mem_of_getElem? (i := 494) (by decide +kernel)) rfl
theorem j_P_80 : Cond.methodLinkNest R_P 80 y_B_isInNest R_P ∈ nw_l := nw_of (List.mem_of_getElem? (i := 497) (by decide +kernel)) rfl
theorem j_P_83 : Cond.methodLinkNest R_P 83 y_B_arrayOf R_P ∈ nw_l := nw_of (List.mem_of_getElem? (i := 498) (by decide +kernel)) rfl
set_option maxHeartbeats 4000000 in
set_option maxRecDepth 100000 in
theorem c_P_related (l : Launch) (h0 : Nat) (t : Int32) (k : Int32) : pmI l y_P_related b_P_related 3 .int 2 41 [.ref h0, .int t, .int k] (fun r => r = f_P_related t k) := by
  refine pm_of (by decide) (Nat.le_of_ble_eq_true rfl) ?_
  intro p e s m below meth c ls hx hb hF hr hlk hN hl
  have hl : lv_has ls 3 [(0, .ref h0), (1, .int t), (2, .int k)] := hl
  refine lv_iload_n hx hb d_P_related_0 rfl (lv_at hl 1 rfl) ?_
  refine pm_callNE hF hN (c_B_isType l t) k_B_isType j_P_35 ⟨Nat.le_of_ble_eq_true rfl, Nat.le_of_ble_eq_true rfl⟩ rfl hl.1 (Nat.le_of_ble_eq_true rfl) d_P_related_1 ⟨Nat.le_refl _, Nat.le_refl _⟩ ?_
  refine lv_if_ne (tgt := 9) hx hb d_P_related_4 (by decide) (fun c_2 => ?_) (fun c_2 => ?_)
  · skip
    refine lv_iload_n hx hb d_P_related_9 rfl (lv_at hl 2 rfl) ?_
    by_cases c_3 : k = 0
    · refine lv_tableIn (tgt := 48) (off := 38) hx hb d_P_related_10 (by rw [c_3]; decide) (by rw [c_3]; decide) (by rw [c_3]; decide) (by decide) ?_
      refine lv_iload_n hx hb d_P_related_48 rfl (lv_at hl 1 rfl) ?_
      refine pm_callNE hF hN (c_B_classUp l t) k_B_classUp j_P_74 ⟨Nat.le_of_ble_eq_true rfl, Nat.le_of_ble_eq_true rfl⟩ rfl hl.1 (Nat.le_of_ble_eq_true rfl) d_P_related_49 ⟨Nat.le_refl _, Nat.le_refl _⟩ ?_
      exact pm_ret hx hb hr hlk (nar_i _) (by rw [f_P_related, if_neg c_2, if_pos c_3]) d_P_related_52
    by_cases c_5 : k = 1
    · refine lv_tableIn (tgt := 53) (off := 43) hx hb d_P_related_10 (by rw [c_5]; decide) (by rw [c_5]; decide) (by rw [c_5]; decide) (by decide) ?_
      refine lv_iload_n hx hb d_P_related_53 rfl (lv_at hl 1 rfl) ?_
      refine pm_callNE hF hN (c_B_isArray l t) k_B_isArray j_P_41 ⟨Nat.le_of_ble_eq_true rfl, Nat.le_of_ble_eq_true rfl⟩ rfl hl.1 (Nat.le_of_ble_eq_true rfl) d_P_related_54 ⟨Nat.le_refl _, Nat.le_refl _⟩ ?_
      refine lv_if_eq (tgt := 67) hx hb d_P_related_57 (by decide) (fun c_7 => ?_) (fun c_7 => ?_)
      · skip
        refine lv_bipush (v := (-2)) hx hb d_P_related_67 (by decide) ?_
        exact pm_ret hx hb hr hlk (nar_i _) (by rw [f_P_related, if_neg c_2, if_neg c_3, if_pos c_5, if_pos c_7]) d_P_related_69
      · skip
        refine lv_iload_n hx hb d_P_related_60 rfl (lv_at hl 1 rfl) ?_
        refine lv_bipush (v := 40) hx hb d_P_related_61 (by decide) ?_
        refine lv_isub hx hb d_P_related_63 ?_
        refine lv_goto (tgt := 69) hx hb d_P_related_64 (by decide) ?_
        exact pm_ret hx hb hr hlk (nar_i _) (by rw [f_P_related, if_neg c_2, if_neg c_3, if_pos c_5, if_neg c_7]) d_P_related_69
    by_cases c_8 : k = 2
    · refine lv_tableIn (tgt := 70) (off := 60) hx hb d_P_related_10 (by rw [c_8]; decide) (by rw [c_8]; decide) (by rw [c_8]; decide) (by decide) ?_
      refine lv_iload_n hx hb d_P_related_70 rfl (lv_at hl 1 rfl) ?_
      refine pm_callNE hF hN (c_B_standsIn l t) k_B_standsIn j_P_77 ⟨Nat.le_of_ble_eq_true rfl, Nat.le_of_ble_eq_true rfl⟩ rfl hl.1 (Nat.le_of_ble_eq_true rfl) d_P_related_71 ⟨Nat.le_refl _, Nat.le_refl _⟩ ?_
      exact pm_ret hx hb hr hlk (nar_i _) (by rw [f_P_related, if_neg c_2, if_neg c_3, if_neg c_5, if_pos c_8]) d_P_related_74
    by_cases c_10 : k = 3
    · refine lv_tableIn (tgt := 75) (off := 65) hx hb d_P_related_10 (by rw [c_10]; decide) (by rw [c_10]; decide) (by rw [c_10]; decide) (by decide) ?_
      refine lv_iload_n hx hb d_P_related_75 rfl (lv_at hl 1 rfl) ?_
      refine pm_callNE hF hN (c_B_isMember l t) k_B_isMember j_P_53 ⟨Nat.le_of_ble_eq_true rfl, Nat.le_of_ble_eq_true rfl⟩ rfl hl.1 (Nat.le_of_ble_eq_true rfl) d_P_related_76 ⟨Nat.le_refl _, Nat.le_refl _⟩ ?_
      refine lv_if_eq (tgt := 89) hx hb d_P_related_79 (by decide) (fun c_12 => ?_) (fun c_12 => ?_)
      · skip
        refine lv_bipush (v := (-2)) hx hb d_P_related_89 (by decide) ?_
        exact pm_ret hx hb hr hlk (nar_i _) (by rw [f_P_related, if_neg c_2, if_neg c_3, if_neg c_5, if_neg c_8, if_pos c_10, if_pos c_12]) d_P_related_91
      · skip
        refine lv_iload_n hx hb d_P_related_82 rfl (lv_at hl 1 rfl) ?_
        refine pm_callNE hF hN (c_B_standsIn l t) k_B_standsIn j_P_77 ⟨Nat.le_of_ble_eq_true rfl, Nat.le_of_ble_eq_true rfl⟩ rfl hl.1 (Nat.le_of_ble_eq_true rfl) d_P_related_83 ⟨Nat.le_refl _, Nat.le_refl _⟩ ?_
        refine lv_goto (tgt := 91) hx hb d_P_related_86 (by decide) ?_
        exact pm_ret hx hb hr hlk (nar_i _) (by rw [f_P_related, if_neg c_2, if_neg c_3, if_neg c_5, if_neg c_8, if_pos c_10, if_neg c_12]) d_P_related_91
    by_cases c_14 : k = 4
    · refine lv_tableIn (tgt := 92) (off := 82) hx hb d_P_related_10 (by rw [c_14]; decide) (by rw [c_14]; decide) (by rw [c_14]; decide) (by decide) ?_
      refine lv_iload_n hx hb d_P_related_92 rfl (lv_at hl 1 rfl) ?_
      refine pm_callNE hF hN (c_B_isInNest l t) k_B_isInNest j_P_80 ⟨Nat.le_of_ble_eq_true rfl, Nat.le_of_ble_eq_true rfl⟩ rfl hl.1 (Nat.le_of_ble_eq_true rfl) d_P_related_93 ⟨Nat.le_refl _, Nat.le_refl _⟩ ?_
      refine lv_if_eq (tgt := 104) hx hb d_P_related_96 (by decide) (fun c_16 => ?_) (fun c_16 => ?_)
      · skip
        refine lv_iload_n hx hb d_P_related_104 rfl (lv_at hl 1 rfl) ?_
        exact pm_ret hx hb hr hlk (nar_i _) (by rw [f_P_related, if_neg c_2, if_neg c_3, if_neg c_5, if_neg c_8, if_neg c_10, if_pos c_14, if_pos c_16]) d_P_related_105
      · skip
        refine lv_bipush (v := 11) hx hb d_P_related_99 (by decide) ?_
        refine lv_goto (tgt := 105) hx hb d_P_related_101 (by decide) ?_
        exact pm_ret hx hb hr hlk (nar_i _) (by rw [f_P_related, if_neg c_2, if_neg c_3, if_neg c_5, if_neg c_8, if_neg c_10, if_pos c_14, if_neg c_16]) d_P_related_105
    by_cases c_17 : k = 5
    · refine lv_tableIn (tgt := 106) (off := 96) hx hb d_P_related_10 (by rw [c_17]; decide) (by rw [c_17]; decide) (by rw [c_17]; decide) (by decide) ?_
      refine lv_iload_n hx hb d_P_related_106 rfl (lv_at hl 1 rfl) ?_
      refine lv_iconst (v := 1) hx hb d_P_related_107 (by decide) ?_
      refine pm_callNE hF hN (c_B_arrayOf l t 1) k_B_arrayOf j_P_83 ⟨Nat.le_of_ble_eq_true rfl, Nat.le_of_ble_eq_true rfl⟩ rfl hl.1 (Nat.le_of_ble_eq_true rfl) d_P_related_108 ⟨Nat.le_refl _, Nat.le_refl _⟩ ?_
      exact pm_ret hx hb hr hlk (nar_i _) (by rw [f_P_related, if_neg c_2, if_neg c_3, if_neg c_5, if_neg c_8, if_neg c_10, if_neg c_14, if_pos c_17]) d_P_related_111
    refine lv_tableOut (tgt := 112) hx hb d_P_related_10 (by have := lv_neT (a := 0) c_3 (by decide); have := lv_neT (a := 1) c_5 (by decide); have := lv_neT (a := 2) c_8 (by decide); have := lv_neT (a := 3) c_10 (by decide); have := lv_neT (a := 4) c_14 (by decide); have := lv_neT (a := 5) c_17 (by decide); omega) (by decide) ?_
    refine lv_iconst (v := (-1)) hx hb d_P_related_112 (by decide) ?_
    exact pm_ret hx hb hr hlk (nar_i _) (by rw [f_P_related, if_neg c_2, if_neg c_3, if_neg c_5, if_neg c_8, if_neg c_10, if_neg c_14, if_neg c_17]) d_P_related_113
  · skip
    refine lv_iconst (v := (-1)) hx hb d_P_related_7 (by decide) ?_
    exact pm_ret hx hb hr hlk (nar_i _) (by rw [f_P_related, if_pos c_2]) d_P_related_8
def f_P_interfaceOf (t : Int32) (k : Int32) : Int32 := (if (f_B_isType t) = 0 then (-1) else (f_B_interfaceAt t k))
set_option maxRecDepth 100000 in
theorem k_P_interfaceOf : ck y_P_interfaceOf b_P_interfaceOf 3 (some .int) 2 (.instanceMethod y_P_interfaceOf) := ⟨tk_of (List.mem_of_getElem? (i := 504) rfl) rfl, tk_of (List.mem_of_getElem? (i := 502) (by decide +kernel)) rfl, tk_of (List.mem_of_getElem? (i := 36) (by decide +kernel)) rfl, by decide +kernel⟩
theorem j_P_86 : Cond.methodLinkNest R_P 86 y_B_interfaceAt R_P ∈ nw_l := nw_of (List.mem_of_getElem? (i := 505) (by decide +kernel)) rfl
set_option maxHeartbeats 4000000 in
set_option maxRecDepth 100000 in
theorem c_P_interfaceOf (l : Launch) (h0 : Nat) (t : Int32) (k : Int32) : pmI l y_P_interfaceOf b_P_interfaceOf 3 .int 3 61 [.ref h0, .int t, .int k] (fun r => r = f_P_interfaceOf t k) := by
  refine pm_of (by decide) (Nat.le_of_ble_eq_true rfl) ?_
  intro p e s m below meth c ls hx hb hF hr hlk hN hl
  have hl : lv_has ls 3 [(0, .ref h0), (1, .int t), (2, .int k)] := hl
  refine lv_iload_n hx hb d_P_interfaceOf_0 rfl (lv_at hl 1 rfl) ?_
  refine pm_callNE hF hN (c_B_isType l t) k_B_isType j_P_35 ⟨Nat.le_of_ble_eq_true rfl, Nat.le_of_ble_eq_true rfl⟩ rfl hl.1 (Nat.le_of_ble_eq_true rfl) d_P_interfaceOf_1 ⟨Nat.le_refl _, Nat.le_refl _⟩ ?_
  refine lv_if_eq (tgt := 15) hx hb d_P_interfaceOf_4 (by decide) (fun c_2 => ?_) (fun c_2 => ?_)
  · skip
    refine lv_iconst (v := (-1)) hx hb d_P_interfaceOf_15 (by decide) ?_
    exact pm_ret hx hb hr hlk (nar_i _) (by rw [f_P_interfaceOf, if_pos c_2]) d_P_interfaceOf_16
  · skip
    refine lv_iload_n hx hb d_P_interfaceOf_7 rfl (lv_at hl 1 rfl) ?_
    refine lv_iload_n hx hb d_P_interfaceOf_8 rfl (lv_at hl 2 rfl) ?_
    refine pm_callNE hF hN (c_B_interfaceAt l t k) k_B_interfaceAt j_P_86 ⟨Nat.le_of_ble_eq_true rfl, Nat.le_of_ble_eq_true rfl⟩ rfl hl.1 (Nat.le_of_ble_eq_true rfl) d_P_interfaceOf_9 ⟨Nat.le_refl _, Nat.le_refl _⟩ ?_
    refine lv_goto (tgt := 16) hx hb d_P_interfaceOf_12 (by decide) ?_
    exact pm_ret hx hb hr hlk (nar_i _) (by rw [f_P_interfaceOf, if_neg c_2]) d_P_interfaceOf_16
def f_P_goesInto (u : Int32) (t : Int32) : Int32 := (if (f_B_isType u) = 0 then 0 else (if (f_B_isType t) = 0 then 0 else (if (f_B_fits u t) = 0 then 0 else 1)))
set_option maxRecDepth 100000 in
theorem z_P_goesInto (u : Int32) (t : Int32) : f_P_goesInto u t = 0 ∨ f_P_goesInto u t = 1 := by
  unfold f_P_goesInto
  repeat' first | with_reducible refine z_ite ?_ ?_ | with_reducible exact z_B_fits _ _ | with_reducible exact z_B_isType _ | with_reducible exact Or.inl rfl | with_reducible exact Or.inr rfl
set_option maxRecDepth 100000 in
theorem k_P_goesInto : ck y_P_goesInto b_P_goesInto 3 (some .boolean) 2 (.instanceMethod y_P_goesInto) := ⟨tk_of (List.mem_of_getElem? (i := 512) rfl) rfl, tk_of (List.mem_of_getElem? (i := 510) (by decide +kernel)) rfl, tk_of (List.mem_of_getElem? (i := 36) (by decide +kernel)) rfl, by decide +kernel⟩
theorem j_P_89 : Cond.methodLinkNest R_P 89 y_B_fits R_P ∈ nw_l := nw_of (List.mem_of_getElem? (i := 513) (by decide +kernel)) rfl
set_option maxHeartbeats 4000000 in
set_option maxRecDepth 100000 in
theorem c_P_goesInto (l : Launch) (h0 : Nat) (u : Int32) (t : Int32) : pmI l y_P_goesInto b_P_goesInto 3 .boolean 5 108 [.ref h0, .int u, .int t] (fun r => r = f_P_goesInto u t) := by
  refine pm_of (by decide) (Nat.le_of_ble_eq_true rfl) ?_
  intro p e s m below meth c ls hx hb hF hr hlk hN hl
  have hl : lv_has ls 3 [(0, .ref h0), (1, .int u), (2, .int t)] := hl
  refine lv_iload_n hx hb d_P_goesInto_0 rfl (lv_at hl 1 rfl) ?_
  refine pm_callNE hF hN (c_B_isType l u) k_B_isType j_P_35 ⟨Nat.le_of_ble_eq_true rfl, Nat.le_of_ble_eq_true rfl⟩ rfl hl.1 (Nat.le_of_ble_eq_true rfl) d_P_goesInto_1 ⟨Nat.le_refl _, Nat.le_refl _⟩ ?_
  refine lv_if_eq (tgt := 26) hx hb d_P_goesInto_4 (by decide) (fun c_2 => ?_) (fun c_2 => ?_)
  · skip
    refine lv_iconst (v := 0) hx hb d_P_goesInto_26 (by decide) ?_
    exact pm_ret hx hb hr hlk (by decide) (by rw [f_P_goesInto, if_pos c_2]) d_P_goesInto_27
  · skip
    refine lv_iload_n hx hb d_P_goesInto_7 rfl (lv_at hl 2 rfl) ?_
    refine pm_callNE hF hN (c_B_isType l t) k_B_isType j_P_35 ⟨Nat.le_of_ble_eq_true rfl, Nat.le_of_ble_eq_true rfl⟩ rfl hl.1 (Nat.le_of_ble_eq_true rfl) d_P_goesInto_8 ⟨Nat.le_refl _, Nat.le_refl _⟩ ?_
    refine lv_if_eq (tgt := 26) hx hb d_P_goesInto_11 (by decide) (fun c_4 => ?_) (fun c_4 => ?_)
    · skip
      refine lv_iconst (v := 0) hx hb d_P_goesInto_26 (by decide) ?_
      exact pm_ret hx hb hr hlk (by decide) (by rw [f_P_goesInto, if_neg c_2, if_pos c_4]) d_P_goesInto_27
    · skip
      refine lv_iload_n hx hb d_P_goesInto_14 rfl (lv_at hl 1 rfl) ?_
      refine lv_iload_n hx hb d_P_goesInto_15 rfl (lv_at hl 2 rfl) ?_
      refine pm_callNE hF hN (c_B_fits l u t) k_B_fits j_P_89 ⟨Nat.le_of_ble_eq_true rfl, Nat.le_of_ble_eq_true rfl⟩ rfl hl.1 (Nat.le_of_ble_eq_true rfl) d_P_goesInto_16 ⟨Nat.le_refl _, Nat.le_refl _⟩ ?_
      refine lv_if_eq (tgt := 26) hx hb d_P_goesInto_19 (by decide) (fun c_6 => ?_) (fun c_6 => ?_)
      · skip
        refine lv_iconst (v := 0) hx hb d_P_goesInto_26 (by decide) ?_
        exact pm_ret hx hb hr hlk (by decide) (by rw [f_P_goesInto, if_neg c_2, if_neg c_4, if_pos c_6]) d_P_goesInto_27
      · skip
        refine lv_iconst (v := 1) hx hb d_P_goesInto_22 (by decide) ?_
        refine lv_goto (tgt := 27) hx hb d_P_goesInto_23 (by decide) ?_
        exact pm_ret hx hb hr hlk (by decide) (by rw [f_P_goesInto, if_neg c_2, if_neg c_4, if_neg c_6]) d_P_goesInto_27
def f_P_asSubclass (u : Int32) (t : Int32) : Int32 := (if (f_B_isType u) = 0 then (-1) else (if (f_B_isType t) = 0 then (-1) else (if (f_B_fits u t) = 0 then (-5) else u)))
set_option maxRecDepth 100000 in
theorem k_P_asSubclass : ck y_P_asSubclass b_P_asSubclass 3 (some .int) 2 (.instanceMethod y_P_asSubclass) := ⟨tk_of (List.mem_of_getElem? (i := 525) rfl) rfl, tk_of (List.mem_of_getElem? (i := 523) (by decide +kernel)) rfl, tk_of (List.mem_of_getElem? (i := 36) (by decide +kernel)) rfl, by decide +kernel⟩
set_option maxHeartbeats 4000000 in
set_option maxRecDepth 100000 in
theorem c_P_asSubclass (l : Launch) (h0 : Nat) (u : Int32) (t : Int32) : pmI l y_P_asSubclass b_P_asSubclass 3 .int 5 108 [.ref h0, .int u, .int t] (fun r => r = f_P_asSubclass u t) := by
  refine pm_of (by decide) (Nat.le_of_ble_eq_true rfl) ?_
  intro p e s m below meth c ls hx hb hF hr hlk hN hl
  have hl : lv_has ls 3 [(0, .ref h0), (1, .int u), (2, .int t)] := hl
  refine lv_iload_n hx hb d_P_asSubclass_0 rfl (lv_at hl 1 rfl) ?_
  refine pm_callNE hF hN (c_B_isType l u) k_B_isType j_P_35 ⟨Nat.le_of_ble_eq_true rfl, Nat.le_of_ble_eq_true rfl⟩ rfl hl.1 (Nat.le_of_ble_eq_true rfl) d_P_asSubclass_1 ⟨Nat.le_refl _, Nat.le_refl _⟩ ?_
  refine lv_if_eq (tgt := 14) hx hb d_P_asSubclass_4 (by decide) (fun c_2 => ?_) (fun c_2 => ?_)
  · skip
    refine lv_iconst (v := (-1)) hx hb d_P_asSubclass_14 (by decide) ?_
    exact pm_ret hx hb hr hlk (nar_i _) (by rw [f_P_asSubclass, if_pos c_2]) d_P_asSubclass_15
  · skip
    refine lv_iload_n hx hb d_P_asSubclass_7 rfl (lv_at hl 2 rfl) ?_
    refine pm_callNE hF hN (c_B_isType l t) k_B_isType j_P_35 ⟨Nat.le_of_ble_eq_true rfl, Nat.le_of_ble_eq_true rfl⟩ rfl hl.1 (Nat.le_of_ble_eq_true rfl) d_P_asSubclass_8 ⟨Nat.le_refl _, Nat.le_refl _⟩ ?_
    refine lv_if_ne (tgt := 16) hx hb d_P_asSubclass_11 (by decide) (fun c_4 => ?_) (fun c_4 => ?_)
    · skip
      refine lv_iload_n hx hb d_P_asSubclass_16 rfl (lv_at hl 1 rfl) ?_
      refine lv_iload_n hx hb d_P_asSubclass_17 rfl (lv_at hl 2 rfl) ?_
      refine pm_callNE hF hN (c_B_fits l u t) k_B_fits j_P_89 ⟨Nat.le_of_ble_eq_true rfl, Nat.le_of_ble_eq_true rfl⟩ rfl hl.1 (Nat.le_of_ble_eq_true rfl) d_P_asSubclass_18 ⟨Nat.le_refl _, Nat.le_refl _⟩ ?_
      refine lv_if_eq (tgt := 28) hx hb d_P_asSubclass_21 (by decide) (fun c_6 => ?_) (fun c_6 => ?_)
      · skip
        refine lv_bipush (v := (-5)) hx hb d_P_asSubclass_28 (by decide) ?_
        exact pm_ret hx hb hr hlk (nar_i _) (by rw [f_P_asSubclass, if_neg c_2, if_neg c_4, if_pos c_6]) d_P_asSubclass_30
      · skip
        refine lv_iload_n hx hb d_P_asSubclass_24 rfl (lv_at hl 1 rfl) ?_
        refine lv_goto (tgt := 30) hx hb d_P_asSubclass_25 (by decide) ?_
        exact pm_ret hx hb hr hlk (nar_i _) (by rw [f_P_asSubclass, if_neg c_2, if_neg c_4, if_neg c_6]) d_P_asSubclass_30
    · skip
      refine lv_iconst (v := (-1)) hx hb d_P_asSubclass_14 (by decide) ?_
      exact pm_ret hx hb hr hlk (nar_i _) (by rw [f_P_asSubclass, if_neg c_2, if_pos c_4]) d_P_asSubclass_15
def f_P_nestmates (u : Int32) (t : Int32) : Int32 := (if (f_B_isType u) = 0 then 0 else (if (f_B_isType t) = 0 then 0 else (if u = t then 1 else (if (f_B_isInNest u) = 0 then 0 else (if (f_B_isInNest t) = 0 then 0 else 1)))))
set_option maxRecDepth 100000 in
theorem z_P_nestmates (u : Int32) (t : Int32) : f_P_nestmates u t = 0 ∨ f_P_nestmates u t = 1 := by
  unfold f_P_nestmates
  repeat' first | with_reducible refine z_ite ?_ ?_ | with_reducible exact z_B_isInNest _ | with_reducible exact z_B_isType _ | with_reducible exact Or.inl rfl | with_reducible exact Or.inr rfl
set_option maxRecDepth 100000 in
theorem k_P_nestmates : ck y_P_nestmates b_P_nestmates 3 (some .boolean) 2 (.instanceMethod y_P_nestmates) := ⟨tk_of (List.mem_of_getElem? (i := 529) rfl) rfl, tk_of (List.mem_of_getElem? (i := 527) (by decide +kernel)) rfl, tk_of (List.mem_of_getElem? (i := 36) (by decide +kernel)) rfl, by decide +kernel⟩
set_option maxHeartbeats 4000000 in
set_option maxRecDepth 100000 in
theorem c_P_nestmates (l : Launch) (h0 : Nat) (u : Int32) (t : Int32) : pmI l y_P_nestmates b_P_nestmates 3 .boolean 2 40 [.ref h0, .int u, .int t] (fun r => r = f_P_nestmates u t) := by
  refine pm_of (by decide) (Nat.le_of_ble_eq_true rfl) ?_
  intro p e s m below meth c ls hx hb hF hr hlk hN hl
  have hl : lv_has ls 3 [(0, .ref h0), (1, .int u), (2, .int t)] := hl
  refine lv_iload_n hx hb d_P_nestmates_0 rfl (lv_at hl 1 rfl) ?_
  refine pm_callNE hF hN (c_B_isType l u) k_B_isType j_P_35 ⟨Nat.le_of_ble_eq_true rfl, Nat.le_of_ble_eq_true rfl⟩ rfl hl.1 (Nat.le_of_ble_eq_true rfl) d_P_nestmates_1 ⟨Nat.le_refl _, Nat.le_refl _⟩ ?_
  refine lv_if_eq (tgt := 14) hx hb d_P_nestmates_4 (by decide) (fun c_2 => ?_) (fun c_2 => ?_)
  · skip
    refine lv_iconst (v := 0) hx hb d_P_nestmates_14 (by decide) ?_
    exact pm_ret hx hb hr hlk (by decide) (by rw [f_P_nestmates, if_pos c_2]) d_P_nestmates_15
  · skip
    refine lv_iload_n hx hb d_P_nestmates_7 rfl (lv_at hl 2 rfl) ?_
    refine pm_callNE hF hN (c_B_isType l t) k_B_isType j_P_35 ⟨Nat.le_of_ble_eq_true rfl, Nat.le_of_ble_eq_true rfl⟩ rfl hl.1 (Nat.le_of_ble_eq_true rfl) d_P_nestmates_8 ⟨Nat.le_refl _, Nat.le_refl _⟩ ?_
    refine lv_if_ne (tgt := 16) hx hb d_P_nestmates_11 (by decide) (fun c_4 => ?_) (fun c_4 => ?_)
    · skip
      refine lv_iload_n hx hb d_P_nestmates_16 rfl (lv_at hl 1 rfl) ?_
      refine lv_iload_n hx hb d_P_nestmates_17 rfl (lv_at hl 2 rfl) ?_
      refine lv_icmp_eq (tgt := 35) hx hb d_P_nestmates_18 (by decide) (fun c_5 => ?_) (fun c_5 => ?_)
      · skip
        refine lv_iconst (v := 1) hx hb d_P_nestmates_35 (by decide) ?_
        refine lv_goto (tgt := 40) hx hb d_P_nestmates_36 (by decide) ?_
        exact pm_ret hx hb hr hlk (by decide) (by rw [f_P_nestmates, if_neg c_2, if_neg c_4, if_pos c_5]) d_P_nestmates_40
      · skip
        refine lv_iload_n hx hb d_P_nestmates_21 rfl (lv_at hl 1 rfl) ?_
        refine pm_callNE hF hN (c_B_isInNest l u) k_B_isInNest j_P_80 ⟨Nat.le_of_ble_eq_true rfl, Nat.le_of_ble_eq_true rfl⟩ rfl hl.1 (Nat.le_of_ble_eq_true rfl) d_P_nestmates_22 ⟨Nat.le_refl _, Nat.le_refl _⟩ ?_
        refine lv_if_eq (tgt := 39) hx hb d_P_nestmates_25 (by decide) (fun c_7 => ?_) (fun c_7 => ?_)
        · skip
          refine lv_iconst (v := 0) hx hb d_P_nestmates_39 (by decide) ?_
          exact pm_ret hx hb hr hlk (by decide) (by rw [f_P_nestmates, if_neg c_2, if_neg c_4, if_neg c_5, if_pos c_7]) d_P_nestmates_40
        · skip
          refine lv_iload_n hx hb d_P_nestmates_28 rfl (lv_at hl 2 rfl) ?_
          refine pm_callNE hF hN (c_B_isInNest l t) k_B_isInNest j_P_80 ⟨Nat.le_of_ble_eq_true rfl, Nat.le_of_ble_eq_true rfl⟩ rfl hl.1 (Nat.le_of_ble_eq_true rfl) d_P_nestmates_29 ⟨Nat.le_refl _, Nat.le_refl _⟩ ?_
          refine lv_if_eq (tgt := 39) hx hb d_P_nestmates_32 (by decide) (fun c_9 => ?_) (fun c_9 => ?_)
          · skip
            refine lv_iconst (v := 0) hx hb d_P_nestmates_39 (by decide) ?_
            exact pm_ret hx hb hr hlk (by decide) (by rw [f_P_nestmates, if_neg c_2, if_neg c_4, if_neg c_5, if_neg c_7, if_pos c_9]) d_P_nestmates_40
          · skip
            refine lv_iconst (v := 1) hx hb d_P_nestmates_35 (by decide) ?_
            refine lv_goto (tgt := 40) hx hb d_P_nestmates_36 (by decide) ?_
            exact pm_ret hx hb hr hlk (by decide) (by rw [f_P_nestmates, if_neg c_2, if_neg c_4, if_neg c_5, if_neg c_7, if_neg c_9]) d_P_nestmates_40
    · skip
      refine lv_iconst (v := 0) hx hb d_P_nestmates_14 (by decide) ?_
      exact pm_ret hx hb hr hlk (by decide) (by rw [f_P_nestmates, if_neg c_2, if_pos c_4]) d_P_nestmates_15
