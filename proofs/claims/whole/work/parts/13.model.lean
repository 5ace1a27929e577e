def f_M_in (v : Int32) (a : Int32) (b : Int32) : Int32 := (if v < a then 0 else (if b < v then 0 else 1))
set_option maxRecDepth 100000 in
theorem z_M_in (v : Int32) (a : Int32) (b : Int32) : f_M_in v a b = 0 ∨ f_M_in v a b = 1 := by
  unfold f_M_in
  repeat' first | with_reducible refine z_ite ?_ ?_ | with_reducible exact Or.inl rfl | with_reducible exact Or.inr rfl
set_option maxRecDepth 100000 in
theorem k_M_in : ck y_M_in b_M_in 3 (some .boolean) 3 (.static y_M_in) := ⟨tk_of (List.mem_of_getElem? (i := 701) rfl) rfl, tk_of (List.mem_of_getElem? (i := 700) (by decide +kernel)) rfl, tk_of (List.mem_of_getElem? (i := 43) (by decide +kernel)) rfl, by decide +kernel⟩
set_option maxHeartbeats 4000000 in
set_option maxRecDepth 100000 in
theorem c_M_in (l : Launch) (v : Int32) (a : Int32) (b : Int32) : pmI l y_M_in b_M_in 3 .boolean 0 0 [.int v, .int a, .int b] (fun r => r = f_M_in v a b) := by
  refine pm_of (by decide) (Nat.le_of_ble_eq_true rfl) ?_
  intro p e s m below meth c ls hx hb hF hr hlk hN hl
  have hl : lv_has ls 3 [(0, .int v), (1, .int a), (2, .int b)] := hl
  refine lv_iload_n hx hb d_M_in_0 rfl (lv_at hl 0 rfl) ?_
  refine lv_iload_n hx hb d_M_in_1 rfl (lv_at hl 1 rfl) ?_
  refine lv_icmp_lt (tgt := 14) hx hb d_M_in_2 (by decide) (fun c_1 => ?_) (fun c_1 => ?_)
  · skip
    refine lv_iconst (v := 0) hx hb d_M_in_14 (by decide) ?_
    exact pm_ret hx hb hr hlk (by decide) (by rw [f_M_in, if_pos c_1]) d_M_in_15
  · skip
    refine lv_iload_n hx hb d_M_in_5 rfl (lv_at hl 0 rfl) ?_
    refine lv_iload_n hx hb d_M_in_6 rfl (lv_at hl 2 rfl) ?_
    refine lv_icmp_gt (tgt := 14) hx hb d_M_in_7 (by decide) (fun c_2 => ?_) (fun c_2 => ?_)
    · skip
      refine lv_iconst (v := 0) hx hb d_M_in_14 (by decide) ?_
      exact pm_ret hx hb hr hlk (by decide) (by rw [f_M_in, if_neg c_1, if_pos c_2]) d_M_in_15
    · skip
      refine lv_iconst (v := 1) hx hb d_M_in_10 (by decide) ?_
      refine lv_goto (tgt := 15) hx hb d_M_in_11 (by decide) ?_
      exact pm_ret hx hb hr hlk (by decide) (by rw [f_M_in, if_neg c_1, if_neg c_2]) d_M_in_15
def f_M_isType (t : Int32) : Int32 := (if (f_M_in t 0 24) = 0 then (if (f_M_in t 40 64) = 0 then (if (f_M_in t 80 104) = 0 then 0 else (if t = 88 then 0 else 1)) else (if t = 48 then (if (f_M_in t 80 104) = 0 then 0 else (if t = 88 then 0 else 1)) else 1)) else 1)
set_option maxRecDepth 100000 in
theorem z_M_isType (t : Int32) : f_M_isType t = 0 ∨ f_M_isType t = 1 := by
  unfold f_M_isType
  repeat' first | with_reducible refine z_ite ?_ ?_ | with_reducible exact z_M_in _ _ _ | with_reducible exact Or.inl rfl | with_reducible exact Or.inr rfl
set_option maxRecDepth 100000 in
theorem k_M_isType : ck y_M_isType b_M_isType 1 (some .boolean) 1 (.static y_M_isType) := ⟨tk_of (List.mem_of_getElem? (i := 698) rfl) rfl, tk_of (List.mem_of_getElem? (i := 697) (by decide +kernel)) rfl, tk_of (List.mem_of_getElem? (i := 43) (by decide +kernel)) rfl, by decide +kernel⟩
theorem j_M_26 : Cond.methodLink R_M 26 y_M_in ∈ tk := tk_of (List.mem_of_getElem? (i := 699) (by decide +kernel)) rfl
set_option maxHeartbeats 4000000 in
set_option maxRecDepth 100000 in
theorem c_M_isType (l : Launch) (t : Int32) : pmI l y_M_isType b_M_isType 1 .boolean 1 22 [.int t] (fun r => r = f_M_isType t) := by
  refine pm_of (by decide) (Nat.le_of_ble_eq_true rfl) ?_
  intro p e s m below meth c ls hx hb hF hr hlk hN hl
  have hl : lv_has ls 1 [(0, .int t)] := hl
  refine lv_iload_n hx hb d_M_isType_0 rfl (lv_at hl 0 rfl) ?_
  refine lv_iconst (v := 0) hx hb d_M_isType_1 (by decide) ?_
  refine lv_bipush (v := 24) hx hb d_M_isType_2 (by decide) ?_
  refine pm_callE hF hN (c_M_in l t 0 24) k_M_in j_M_26 ⟨Nat.le_of_ble_eq_true rfl, Nat.le_of_ble_eq_true rfl⟩ rfl hl.1 (Nat.le_of_ble_eq_true rfl) d_M_isType_4 ⟨Nat.le_refl _, Nat.le_refl _⟩ ?_
  refine lv_if_ne (tgt := 44) hx hb d_M_isType_7 (by decide) (fun c_2 => ?_) (fun c_2 => ?_)
  · skip
    refine lv_iconst (v := 1) hx hb d_M_isType_44 (by decide) ?_
    refine lv_goto (tgt := 49) hx hb d_M_isType_45 (by decide) ?_
    exact pm_ret hx hb hr hlk (by decide) (by rw [f_M_isType, if_neg c_2]) d_M_isType_49
  · skip
    refine lv_iload_n hx hb d_M_isType_10 rfl (lv_at hl 0 rfl) ?_
    refine lv_bipush (v := 40) hx hb d_M_isType_11 (by decide) ?_
    refine lv_bipush (v := 64) hx hb d_M_isType_13 (by decide) ?_
    refine pm_callE hF hN (c_M_in l t 40 64) k_M_in j_M_26 ⟨Nat.le_of_ble_eq_true rfl, Nat.le_of_ble_eq_true rfl⟩ rfl hl.1 (Nat.le_of_ble_eq_true rfl) d_M_isType_15 ⟨Nat.le_refl _, Nat.le_refl _⟩ ?_
    refine lv_if_eq (tgt := 27) hx hb d_M_isType_18 (by decide) (fun c_4 => ?_) (fun c_4 => ?_)
    · skip
      refine lv_iload_n hx hb d_M_isType_27 rfl (lv_at hl 0 rfl) ?_
      refine lv_bipush (v := 80) hx hb d_M_isType_28 (by decide) ?_
      refine lv_bipush (v := 104) hx hb d_M_isType_30 (by decide) ?_
      refine pm_callE hF hN (c_M_in l t 80 104) k_M_in j_M_26 ⟨Nat.le_of_ble_eq_true rfl, Nat.le_of_ble_eq_true rfl⟩ rfl hl.1 (Nat.le_of_ble_eq_true rfl) d_M_isType_32 ⟨Nat.le_refl _, Nat.le_refl _⟩ ?_
      refine lv_if_eq (tgt := 48) hx hb d_M_isType_35 (by decide) (fun c_6 => ?_) (fun c_6 => ?_)
      · skip
        refine lv_iconst (v := 0) hx hb d_M_isType_48 (by decide) ?_
        exact pm_ret hx hb hr hlk (by decide) (by rw [f_M_isType, if_pos c_2, if_pos c_4, if_pos c_6]) d_M_isType_49
      · skip
        refine lv_iload_n hx hb d_M_isType_38 rfl (lv_at hl 0 rfl) ?_
        refine lv_bipush (v := 88) hx hb d_M_isType_39 (by decide) ?_
        refine lv_icmp_eq (tgt := 48) hx hb d_M_isType_41 (by decide) (fun c_7 => ?_) (fun c_7 => ?_)
        · skip
          refine lv_iconst (v := 0) hx hb d_M_isType_48 (by decide) ?_
          exact pm_ret hx hb hr hlk (by decide) (by rw [f_M_isType, if_pos c_2, if_pos c_4, if_neg c_6, if_pos c_7]) d_M_isType_49
        · skip
          refine lv_iconst (v := 1) hx hb d_M_isType_44 (by decide) ?_
          refine lv_goto (tgt := 49) hx hb d_M_isType_45 (by decide) ?_
          exact pm_ret hx hb hr hlk (by decide) (by rw [f_M_isType, if_pos c_2, if_pos c_4, if_neg c_6, if_neg c_7]) d_M_isType_49
    · skip
      refine lv_iload_n hx hb d_M_isType_21 rfl (lv_at hl 0 rfl) ?_
      refine lv_bipush (v := 48) hx hb d_M_isType_22 (by decide) ?_
      refine lv_icmp_ne (tgt := 44) hx hb d_M_isType_24 (by decide) (fun c_8 => ?_) (fun c_8 => ?_)
      · skip
        refine lv_iconst (v := 1) hx hb d_M_isType_44 (by decide) ?_
        refine lv_goto (tgt := 49) hx hb d_M_isType_45 (by decide) ?_
        exact pm_ret hx hb hr hlk (by decide) (by rw [f_M_isType, if_pos c_2, if_neg c_4, if_neg c_8]) d_M_isType_49
      · skip
        refine lv_iload_n hx hb d_M_isType_27 rfl (lv_at hl 0 rfl) ?_
        refine lv_bipush (v := 80) hx hb d_M_isType_28 (by decide) ?_
        refine lv_bipush (v := 104) hx hb d_M_isType_30 (by decide) ?_
        refine pm_callE hF hN (c_M_in l t 80 104) k_M_in j_M_26 ⟨Nat.le_of_ble_eq_true rfl, Nat.le_of_ble_eq_true rfl⟩ rfl hl.1 (Nat.le_of_ble_eq_true rfl) d_M_isType_32 ⟨Nat.le_refl _, Nat.le_refl _⟩ ?_
        refine lv_if_eq (tgt := 48) hx hb d_M_isType_35 (by decide) (fun c_10 => ?_) (fun c_10 => ?_)
        · skip
          refine lv_iconst (v := 0) hx hb d_M_isType_48 (by decide) ?_
          exact pm_ret hx hb hr hlk (by decide) (by rw [f_M_isType, if_pos c_2, if_neg c_4, if_pos c_8, if_pos c_10]) d_M_isType_49
        · skip
          refine lv_iload_n hx hb d_M_isType_38 rfl (lv_at hl 0 rfl) ?_
          refine lv_bipush (v := 88) hx hb d_M_isType_39 (by decide) ?_
          refine lv_icmp_eq (tgt := 48) hx hb d_M_isType_41 (by decide) (fun c_11 => ?_) (fun c_11 => ?_)
          · skip
            refine lv_iconst (v := 0) hx hb d_M_isType_48 (by decide) ?_
            exact pm_ret hx hb hr hlk (by decide) (by rw [f_M_isType, if_pos c_2, if_neg c_4, if_pos c_8, if_neg c_10, if_pos c_11]) d_M_isType_49
          · skip
            refine lv_iconst (v := 1) hx hb d_M_isType_44 (by decide) ?_
            refine lv_goto (tgt := 49) hx hb d_M_isType_45 (by decide) ?_
            exact pm_ret hx hb hr hlk (by decide) (by rw [f_M_isType, if_pos c_2, if_neg c_4, if_pos c_8, if_neg c_10, if_neg c_11]) d_M_isType_49
def f_M_primitive (t : Int32) : Int32 := (f_M_in t 0 8)
set_option maxRecDepth 100000 in
theorem z_M_primitive (t : Int32) : f_M_primitive t = 0 ∨ f_M_primitive t = 1 := by
  unfold f_M_primitive
  repeat' first | with_reducible refine z_ite ?_ ?_ | with_reducible exact z_M_in _ _ _ | with_reducible exact Or.inl rfl | with_reducible exact Or.inr rfl
set_option maxRecDepth 100000 in
theorem k_M_primitive : ck y_M_primitive b_M_primitive 1 (some .boolean) 1 (.static y_M_primitive) := ⟨tk_of (List.mem_of_getElem? (i := 726) rfl) rfl, tk_of (List.mem_of_getElem? (i := 725) (by decide +kernel)) rfl, tk_of (List.mem_of_getElem? (i := 43) (by decide +kernel)) rfl, by decide +kernel⟩
set_option maxHeartbeats 4000000 in
set_option maxRecDepth 100000 in
theorem c_M_primitive (l : Launch) (t : Int32) : pmI l y_M_primitive b_M_primitive 1 .boolean 1 22 [.int t] (fun r => r = f_M_primitive t) := by
  refine pm_of (by decide) (Nat.le_of_ble_eq_true rfl) ?_
  intro p e s m below meth c ls hx hb hF hr hlk hN hl
  have hl : lv_has ls 1 [(0, .int t)] := hl
  refine lv_iload_n hx hb d_M_primitive_0 rfl (lv_at hl 0 rfl) ?_
  refine lv_iconst (v := 0) hx hb d_M_primitive_1 (by decide) ?_
  refine lv_bipush (v := 8) hx hb d_M_primitive_2 (by decide) ?_
  refine pm_callE hF hN (c_M_in l t 0 8) k_M_in j_M_26 ⟨Nat.le_of_ble_eq_true rfl, Nat.le_of_ble_eq_true rfl⟩ rfl hl.1 (Nat.le_of_ble_eq_true rfl) d_M_primitive_4 ⟨Nat.le_refl _, Nat.le_refl _⟩ ?_
  exact pm_ret hx hb hr hlk (nar_z (z_M_in t 0 8)) rfl d_M_primitive_7
def f_M_isInterface (t : Int32) : Int32 := (if t = 10 then 1 else (if t = 12 then 1 else (if t = 13 then 1 else (if t = 20 then 1 else 0))))
set_option maxRecDepth 100000 in
theorem z_M_isInterface (t : Int32) : f_M_isInterface t = 0 ∨ f_M_isInterface t = 1 := by
  unfold f_M_isInterface
  repeat' first | with_reducible refine z_ite ?_ ?_ | with_reducible exact Or.inl rfl | with_reducible exact Or.inr rfl
set_option maxRecDepth 100000 in
theorem k_M_isInterface : ck y_M_isInterface b_M_isInterface 1 (some .boolean) 1 (.static y_M_isInterface) := ⟨tk_of (List.mem_of_getElem? (i := 782) rfl) rfl, tk_of (List.mem_of_getElem? (i := 781) (by decide +kernel)) rfl, tk_of (List.mem_of_getElem? (i := 43) (by decide +kernel)) rfl, by decide +kernel⟩
set_option maxHeartbeats 4000000 in
set_option maxRecDepth 100000 in
theorem c_M_isInterface (l : Launch) (t : Int32) : pmI l y_M_isInterface b_M_isInterface 1 .boolean 0 0 [.int t] (fun r => r = f_M_isInterface t) := by
  refine pm_of (by decide) (Nat.le_of_ble_eq_true rfl) ?_
  intro p e s m below meth c ls hx hb hF hr hlk hN hl
  have hl : lv_has ls 1 [(0, .int t)] := hl
  refine lv_iload_n hx hb d_M_isInterface_0 rfl (lv_at hl 0 rfl) ?_
  refine lv_bipush (v := 10) hx hb d_M_isInterface_1 (by decide) ?_
  refine lv_icmp_eq (tgt := 24) hx hb d_M_isInterface_3 (by decide) (fun c_1 => ?_) (fun c_1 => ?_)
  · skip
    refine lv_iconst (v := 1) hx hb d_M_isInterface_24 (by decide) ?_
    refine lv_goto (tgt := 29) hx hb d_M_isInterface_25 (by decide) ?_
    exact pm_ret hx hb hr hlk (by decide) (by rw [f_M_isInterface, if_pos c_1]) d_M_isInterface_29
  · skip
    refine lv_iload_n hx hb d_M_isInterface_6 rfl (lv_at hl 0 rfl) ?_
    refine lv_bipush (v := 12) hx hb d_M_isInterface_7 (by decide) ?_
    refine lv_icmp_eq (tgt := 24) hx hb d_M_isInterface_9 (by decide) (fun c_2 => ?_) (fun c_2 => ?_)
    · skip
      refine lv_iconst (v := 1) hx hb d_M_isInterface_24 (by decide) ?_
      refine lv_goto (tgt := 29) hx hb d_M_isInterface_25 (by decide) ?_
      exact pm_ret hx hb hr hlk (by decide) (by rw [f_M_isInterface, if_neg c_1, if_pos c_2]) d_M_isInterface_29
    · skip
      refine lv_iload_n hx hb d_M_isInterface_12 rfl (lv_at hl 0 rfl) ?_
      refine lv_bipush (v := 13) hx hb d_M_isInterface_13 (by decide) ?_
      refine lv_icmp_eq (tgt := 24) hx hb d_M_isInterface_15 (by decide) (fun c_3 => ?_) (fun c_3 => ?_)
      · skip
        refine lv_iconst (v := 1) hx hb d_M_isInterface_24 (by decide) ?_
        refine lv_goto (tgt := 29) hx hb d_M_isInterface_25 (by decide) ?_
        exact pm_ret hx hb hr hlk (by decide) (by rw [f_M_isInterface, if_neg c_1, if_neg c_2, if_pos c_3]) d_M_isInterface_29
      · skip
        refine lv_iload_n hx hb d_M_isInterface_18 rfl (lv_at hl 0 rfl) ?_
        refine lv_bipush (v := 20) hx hb d_M_isInterface_19 (by decide) ?_
        refine lv_icmp_ne (tgt := 28) hx hb d_M_isInterface_21 (by decide) (fun c_4 => ?_) (fun c_4 => ?_)
        · skip
          refine lv_iconst (v := 0) hx hb d_M_isInterface_28 (by decide) ?_
          exact pm_ret hx hb hr hlk (by decide) (by rw [f_M_isInterface, if_neg c_1, if_neg c_2, if_neg c_3, if_neg c_4]) d_M_isInterface_29
        · skip
          refine lv_iconst (v := 1) hx hb d_M_isInterface_24 (by decide) ?_
          refine lv_goto (tgt := 29) hx hb d_M_isInterface_25 (by decide) ?_
          exact pm_ret hx hb hr hlk (by decide) (by rw [f_M_isInterface, if_neg c_1, if_neg c_2, if_neg c_3, if_pos c_4]) d_M_isInterface_29
def f_M_nameless (t : Int32) : Int32 := (if t = 17 then 1 else (if t = 24 then 1 else 0))
set_option maxRecDepth 100000 in
theorem z_M_nameless (t : Int32) : f_M_nameless t = 0 ∨ f_M_nameless t = 1 := by
  unfold f_M_nameless
  repeat' first | with_reducible refine z_ite ?_ ?_ | with_reducible exact Or.inl rfl | with_reducible exact Or.inr rfl
set_option maxRecDepth 100000 in
theorem k_M_nameless : ck y_M_nameless b_M_nameless 1 (some .boolean) 1 (.static y_M_nameless) := ⟨tk_of (List.mem_of_getElem? (i := 774) rfl) rfl, tk_of (List.mem_of_getElem? (i := 773) (by decide +kernel)) rfl, tk_of (List.mem_of_getElem? (i := 43) (by decide +kernel)) rfl, by decide +kernel⟩
set_option maxHeartbeats 4000000 in
set_option maxRecDepth 100000 in
theorem c_M_nameless (l : Launch) (t : Int32) : pmI l y_M_nameless b_M_nameless 1 .boolean 0 0 [.int t] (fun r => r = f_M_nameless t) := by
  refine pm_of (by decide) (Nat.le_of_ble_eq_true rfl) ?_
  intro p e s m below meth c ls hx hb hF hr hlk hN hl
  have hl : lv_has ls 1 [(0, .int t)] := hl
  refine lv_iload_n hx hb d_M_nameless_0 rfl (lv_at hl 0 rfl) ?_
  refine lv_bipush (v := 17) hx hb d_M_nameless_1 (by decide) ?_
  refine lv_icmp_eq (tgt := 12) hx hb d_M_nameless_3 (by decide) (fun c_1 => ?_) (fun c_1 => ?_)
  · skip
    refine lv_iconst (v := 1) hx hb d_M_nameless_12 (by decide) ?_
    refine lv_goto (tgt := 17) hx hb d_M_nameless_13 (by decide) ?_
    exact pm_ret hx hb hr hlk (by decide) (by rw [f_M_nameless, if_pos c_1]) d_M_nameless_17
  · skip
    refine lv_iload_n hx hb d_M_nameless_6 rfl (lv_at hl 0 rfl) ?_
    refine lv_bipush (v := 24) hx hb d_M_nameless_7 (by decide) ?_
    refine lv_icmp_ne (tgt := 16) hx hb d_M_nameless_9 (by decide) (fun c_2 => ?_) (fun c_2 => ?_)
    · skip
      refine lv_iconst (v := 0) hx hb d_M_nameless_16 (by decide) ?_
      exact pm_ret hx hb hr hlk (by decide) (by rw [f_M_nameless, if_neg c_1, if_neg c_2]) d_M_nameless_17
    · skip
      refine lv_iconst (v := 1) hx hb d_M_nameless_12 (by decide) ?_
      refine lv_goto (tgt := 17) hx hb d_M_nameless_13 (by decide) ?_
      exact pm_ret hx hb hr hlk (by decide) (by rw [f_M_nameless, if_neg c_1, if_pos c_2]) d_M_nameless_17
def f_M_member (t : Int32) : Int32 := (if (f_M_in t 12 22) = 0 then 0 else (if t = 17 then 0 else 1))
set_option maxRecDepth 100000 in
theorem z_M_member (t : Int32) : f_M_member t = 0 ∨ f_M_member t = 1 := by
  unfold f_M_member
  repeat' first | with_reducible refine z_ite ?_ ?_ | with_reducible exact z_M_in _ _ _ | with_reducible exact Or.inl rfl | with_reducible exact Or.inr rfl
set_option maxRecDepth 100000 in
theorem k_M_member : ck y_M_member b_M_member 1 (some .boolean) 1 (.static y_M_member) := ⟨tk_of (List.mem_of_getElem? (i := 818) rfl) rfl, tk_of (List.mem_of_getElem? (i := 817) (by decide +kernel)) rfl, tk_of (List.mem_of_getElem? (i := 43) (by decide +kernel)) rfl, by decide +kernel⟩
set_option maxHeartbeats 4000000 in
set_option maxRecDepth 100000 in
theorem c_M_member (l : Launch) (t : Int32) : pmI l y_M_member b_M_member 1 .boolean 1 22 [.int t] (fun r => r = f_M_member t) := by
  refine pm_of (by decide) (Nat.le_of_ble_eq_true rfl) ?_
  intro p e s m below meth c ls hx hb hF hr hlk hN hl
  have hl : lv_has ls 1 [(0, .int t)] := hl
  refine lv_iload_n hx hb d_M_member_0 rfl (lv_at hl 0 rfl) ?_
  refine lv_bipush (v := 12) hx hb d_M_member_1 (by decide) ?_
  refine lv_bipush (v := 22) hx hb d_M_member_3 (by decide) ?_
  refine pm_callE hF hN (c_M_in l t 12 22) k_M_in j_M_26 ⟨Nat.le_of_ble_eq_true rfl, Nat.le_of_ble_eq_true rfl⟩ rfl hl.1 (Nat.le_of_ble_eq_true rfl) d_M_member_5 ⟨Nat.le_refl _, Nat.le_refl _⟩ ?_
  refine lv_if_eq (tgt := 21) hx hb d_M_member_8 (by decide) (fun c_2 => ?_) (fun c_2 => ?_)
  · skip
    refine lv_iconst (v := 0) hx hb d_M_member_21 (by decide) ?_
    exact pm_ret hx hb hr hlk (by decide) (by rw [f_M_member, if_pos c_2]) d_M_member_22
  · skip
    refine lv_iload_n hx hb d_M_member_11 rfl (lv_at hl 0 rfl) ?_
    refine lv_bipush (v := 17) hx hb d_M_member_12 (by decide) ?_
    refine lv_icmp_eq (tgt := 21) hx hb d_M_member_14 (by decide) (fun c_3 => ?_) (fun c_3 => ?_)
    · skip
      refine lv_iconst (v := 0) hx hb d_M_member_21 (by decide) ?_
      exact pm_ret hx hb hr hlk (by decide) (by rw [f_M_member, if_neg c_2, if_pos c_3]) d_M_member_22
    · skip
      refine lv_iconst (v := 1) hx hb d_M_member_17 (by decide) ?_
      refine lv_goto (tgt := 22) hx hb d_M_member_18 (by decide) ?_
      exact pm_ret hx hb hr hlk (by decide) (by rw [f_M_member, if_neg c_2, if_neg c_3]) d_M_member_22
def f_M_plain (t : Int32) : Int32 := (t - t / 40 * 40)
set_option maxRecDepth 100000 in
theorem k_M_plain : ck y_M_plain b_M_plain 1 (some .int) 1 (.static y_M_plain) := ⟨tk_of (List.mem_of_getElem? (i := 708) rfl) rfl, tk_of (List.mem_of_getElem? (i := 707) (by decide +kernel)) rfl, tk_of (List.mem_of_getElem? (i := 43) (by decide +kernel)) rfl, by decide +kernel⟩
set_option maxHeartbeats 4000000 in
set_option maxRecDepth 100000 in
theorem c_M_plain (l : Launch) (t : Int32) : pmI l y_M_plain b_M_plain 1 .int 0 0 [.int t] (fun r => r = f_M_plain t) := by
  refine pm_of (by decide) (Nat.le_of_ble_eq_true rfl) ?_
  intro p e s m below meth c ls hx hb hF hr hlk hN hl
  have hl : lv_has ls 1 [(0, .int t)] := hl
  refine lv_iload_n hx hb d_M_plain_0 rfl (lv_at hl 0 rfl) ?_
  refine lv_bipush (v := 40) hx hb d_M_plain_1 (by decide) ?_
  refine lv_irem hx hb d_M_plain_3 (by decide) ?_
  exact pm_ret hx hb hr hlk (nar_i _) rfl d_M_plain_4
def f_M_levels (t : Int32) : Int32 := (t / 40)
set_option maxRecDepth 100000 in
theorem k_M_levels : ck y_M_levels b_M_levels 1 (some .int) 1 (.static y_M_levels) := ⟨tk_of (List.mem_of_getElem? (i := 715) rfl) rfl, tk_of (List.mem_of_getElem? (i := 714) (by decide +kernel)) rfl, tk_of (List.mem_of_getElem? (i := 43) (by decide +kernel)) rfl, by decide +kernel⟩
set_option maxHeartbeats 4000000 in
set_option maxRecDepth 100000 in
theorem c_M_levels (l : Launch) (t : Int32) : pmI l y_M_levels b_M_levels 1 .int 0 0 [.int t] (fun r => r = f_M_levels t) := by
  refine pm_of (by decide) (Nat.le_of_ble_eq_true rfl) ?_
  intro p e s m below meth c ls hx hb hF hr hlk hN hl
  have hl : lv_has ls 1 [(0, .int t)] := hl
  refine lv_iload_n hx hb d_M_levels_0 rfl (lv_at hl 0 rfl) ?_
  refine lv_bipush (v := 40) hx hb d_M_levels_1 (by decide) ?_
  refine lv_idiv hx hb d_M_levels_3 (by decide) ?_
  exact pm_ret hx hb hr hlk (nar_i _) rfl d_M_levels_4
def f_M_up (t : Int32) : Int32 := (if t < 40 then (if t < 10 then (-2) else (if (f_M_isInterface t) = 0 then (if t = 14 then (-3) else (if t = 16 then (-3) else (if t = 17 then 16 else (if t = 22 then 21 else (if t = 23 then 22 else 9))))) else (-2))) else 9)
set_option maxRecDepth 100000 in
theorem k_M_up : ck y_M_up b_M_up 1 (some .int) 1 (.static y_M_up) := ⟨tk_of (List.mem_of_getElem? (i := 829) rfl) rfl, tk_of (List.mem_of_getElem? (i := 828) (by decide +kernel)) rfl, tk_of (List.mem_of_getElem? (i := 43) (by decide +kernel)) rfl, by decide +kernel⟩
theorem j_M_159 : Cond.methodLink R_M 159 y_M_isInterface ∈ tk := tk_of (List.mem_of_getElem? (i := 780) (by decide +kernel)) rfl
set_option maxHeartbeats 4000000 in
set_option maxRecDepth 100000 in
theorem c_M_up (l : Launch) (t : Int32) : pmI l y_M_up b_M_up 1 .int 1 20 [.int t] (fun r => r = f_M_up t) := by
  refine pm_of (by decide) (Nat.le_of_ble_eq_true rfl) ?_
  intro p e s m below meth c ls hx hb hF hr hlk hN hl
  have hl : lv_has ls 1 [(0, .int t)] := hl
  refine lv_iload_n hx hb d_M_up_0 rfl (lv_at hl 0 rfl) ?_
  refine lv_bipush (v := 40) hx hb d_M_up_1 (by decide) ?_
  refine lv_icmp_lt (tgt := 9) hx hb d_M_up_3 (by decide) (fun c_1 => ?_) (fun c_1 => ?_)
  · skip
    refine lv_iload_n hx hb d_M_up_9 rfl (lv_at hl 0 rfl) ?_
    refine lv_bipush (v := 10) hx hb d_M_up_10 (by decide) ?_
    refine lv_icmp_lt (tgt := 22) hx hb d_M_up_12 (by decide) (fun c_2 => ?_) (fun c_2 => ?_)
    · skip
      refine lv_bipush (v := (-2)) hx hb d_M_up_22 (by decide) ?_
      exact pm_ret hx hb hr hlk (nar_i _) (by rw [f_M_up, if_pos c_1, if_pos c_2]) d_M_up_24
    · skip
      refine lv_iload_n hx hb d_M_up_15 rfl (lv_at hl 0 rfl) ?_
      refine pm_callE hF hN (c_M_isInterface l t) k_M_isInterface j_M_159 ⟨Nat.le_of_ble_eq_true rfl, Nat.le_of_ble_eq_true rfl⟩ rfl hl.1 (Nat.le_of_ble_eq_true rfl) d_M_up_16 ⟨Nat.le_refl _, Nat.le_refl _⟩ ?_
      refine lv_if_eq (tgt := 25) hx hb d_M_up_19 (by decide) (fun c_4 => ?_) (fun c_4 => ?_)
      · skip
        refine lv_iload_n hx hb d_M_up_25 rfl (lv_at hl 0 rfl) ?_
        refine lv_bipush (v := 14) hx hb d_M_up_26 (by decide) ?_
        refine lv_icmp_eq (tgt := 37) hx hb d_M_up_28 (by decide) (fun c_5 => ?_) (fun c_5 => ?_)
        · skip
          refine lv_bipush (v := (-3)) hx hb d_M_up_37 (by decide) ?_
          exact pm_ret hx hb hr hlk (nar_i _) (by rw [f_M_up, if_pos c_1, if_neg c_2, if_pos c_4, if_pos c_5]) d_M_up_39
        · skip
          refine lv_iload_n hx hb d_M_up_31 rfl (lv_at hl 0 rfl) ?_
          refine lv_bipush (v := 16) hx hb d_M_up_32 (by decide) ?_
          refine lv_icmp_ne (tgt := 40) hx hb d_M_up_34 (by decide) (fun c_6 => ?_) (fun c_6 => ?_)
          · skip
            refine lv_iload_n hx hb d_M_up_40 rfl (lv_at hl 0 rfl) ?_
            refine lv_bipush (v := 17) hx hb d_M_up_41 (by decide) ?_
            refine lv_icmp_ne (tgt := 51) hx hb d_M_up_43 (by decide) (fun c_7 => ?_) (fun c_7 => ?_)
            · skip
              refine lv_iload_n hx hb d_M_up_51 rfl (lv_at hl 0 rfl) ?_
              refine lv_bipush (v := 22) hx hb d_M_up_52 (by decide) ?_
              refine lv_icmp_ne (tgt := 62) hx hb d_M_up_54 (by decide) (fun c_8 => ?_) (fun c_8 => ?_)
              · skip
                refine lv_iload_n hx hb d_M_up_62 rfl (lv_at hl 0 rfl) ?_
                refine lv_bipush (v := 23) hx hb d_M_up_63 (by decide) ?_
                refine lv_icmp_ne (tgt := 73) hx hb d_M_up_65 (by decide) (fun c_9 => ?_) (fun c_9 => ?_)
                · skip
                  refine lv_bipush (v := 9) hx hb d_M_up_73 (by decide) ?_
                  exact pm_ret hx hb hr hlk (nar_i _) (by rw [f_M_up, if_pos c_1, if_neg c_2, if_pos c_4, if_neg c_5, if_neg c_6, if_neg c_7, if_neg c_8, if_neg c_9]) d_M_up_75
                · skip
                  refine lv_bipush (v := 22) hx hb d_M_up_68 (by decide) ?_
                  refine lv_goto (tgt := 75) hx hb d_M_up_70 (by decide) ?_
                  exact pm_ret hx hb hr hlk (nar_i _) (by rw [f_M_up, if_pos c_1, if_neg c_2, if_pos c_4, if_neg c_5, if_neg c_6, if_neg c_7, if_neg c_8, if_pos c_9]) d_M_up_75
              · skip
                refine lv_bipush (v := 21) hx hb d_M_up_57 (by decide) ?_
                refine lv_goto (tgt := 75) hx hb d_M_up_59 (by decide) ?_
                exact pm_ret hx hb hr hlk (nar_i _) (by rw [f_M_up, if_pos c_1, if_neg c_2, if_pos c_4, if_neg c_5, if_neg c_6, if_neg c_7, if_pos c_8]) d_M_up_75
            · skip
              refine lv_bipush (v := 16) hx hb d_M_up_46 (by decide) ?_
              refine lv_goto (tgt := 75) hx hb d_M_up_48 (by decide) ?_
              exact pm_ret hx hb hr hlk (nar_i _) (by rw [f_M_up, if_pos c_1, if_neg c_2, if_pos c_4, if_neg c_5, if_neg c_6, if_pos c_7]) d_M_up_75
          · skip
            refine lv_bipush (v := (-3)) hx hb d_M_up_37 (by decide) ?_
            exact pm_ret hx hb hr hlk (nar_i _) (by rw [f_M_up, if_pos c_1, if_neg c_2, if_pos c_4, if_neg c_5, if_pos c_6]) d_M_up_39
      · skip
        refine lv_bipush (v := (-2)) hx hb d_M_up_22 (by decide) ?_
        exact pm_ret hx hb hr hlk (nar_i _) (by rw [f_M_up, if_pos c_1, if_neg c_2, if_neg c_4]) d_M_up_24
  · skip
    refine lv_bipush (v := 9) hx hb d_M_up_6 (by decide) ?_
    exact pm_ret hx hb hr hlk (nar_i _) (by rw [f_M_up, if_neg c_1]) d_M_up_8
def f_M_standsIn (t : Int32) : Int32 := (if (f_M_in t 12 24) = 0 then (-2) else (if t = 17 then 16 else (if t = 19 then 18 else 11)))
set_option maxRecDepth 100000 in
theorem k_M_standsIn : ck y_M_standsIn b_M_standsIn 1 (some .int) 1 (.static y_M_standsIn) := ⟨tk_of (List.mem_of_getElem? (i := 832) rfl) rfl, tk_of (List.mem_of_getElem? (i := 831) (by decide +kernel)) rfl, tk_of (List.mem_of_getElem? (i := 43) (by decide +kernel)) rfl, by decide +kernel⟩
set_option maxHeartbeats 4000000 in
set_option maxRecDepth 100000 in
theorem c_M_standsIn (l : Launch) (t : Int32) : pmI l y_M_standsIn b_M_standsIn 1 .int 1 22 [.int t] (fun r => r = f_M_standsIn t) := by
  refine pm_of (by decide) (Nat.le_of_ble_eq_true rfl) ?_
  intro p e s m below meth c ls hx hb hF hr hlk hN hl
  have hl : lv_has ls 1 [(0, .int t)] := hl
  refine lv_iload_n hx hb d_M_standsIn_0 rfl (lv_at hl 0 rfl) ?_
  refine lv_bipush (v := 12) hx hb d_M_standsIn_1 (by decide) ?_
  refine lv_bipush (v := 24) hx hb d_M_standsIn_3 (by decide) ?_
  refine pm_callE hF hN (c_M_in l t 12 24) k_M_in j_M_26 ⟨Nat.le_of_ble_eq_true rfl, Nat.le_of_ble_eq_true rfl⟩ rfl hl.1 (Nat.le_of_ble_eq_true rfl) d_M_standsIn_5 ⟨Nat.le_refl _, Nat.le_refl _⟩ ?_
  refine lv_if_ne (tgt := 14) hx hb d_M_standsIn_8 (by decide) (fun c_2 => ?_) (fun c_2 => ?_)
  · skip
    refine lv_iload_n hx hb d_M_standsIn_14 rfl (lv_at hl 0 rfl) ?_
    refine lv_bipush (v := 17) hx hb d_M_standsIn_15 (by decide) ?_
    refine lv_icmp_ne (tgt := 25) hx hb d_M_standsIn_17 (by decide) (fun c_3 => ?_) (fun c_3 => ?_)
    · skip
      refine lv_iload_n hx hb d_M_standsIn_25 rfl (lv_at hl 0 rfl) ?_
      refine lv_bipush (v := 19) hx hb d_M_standsIn_26 (by decide) ?_
      refine lv_icmp_ne (tgt := 36) hx hb d_M_standsIn_28 (by decide) (fun c_4 => ?_) (fun c_4 => ?_)
      · skip
        refine lv_bipush (v := 11) hx hb d_M_standsIn_36 (by decide) ?_
        exact pm_ret hx hb hr hlk (nar_i _) (by rw [f_M_standsIn, if_neg c_2, if_neg c_3, if_neg c_4]) d_M_standsIn_38
      · skip
        refine lv_bipush (v := 18) hx hb d_M_standsIn_31 (by decide) ?_
        refine lv_goto (tgt := 38) hx hb d_M_standsIn_33 (by decide) ?_
        exact pm_ret hx hb hr hlk (nar_i _) (by rw [f_M_standsIn, if_neg c_2, if_neg c_3, if_pos c_4]) d_M_standsIn_38
    · skip
      refine lv_bipush (v := 16) hx hb d_M_standsIn_20 (by decide) ?_
      refine lv_goto (tgt := 38) hx hb d_M_standsIn_22 (by decide) ?_
      exact pm_ret hx hb hr hlk (nar_i _) (by rw [f_M_standsIn, if_neg c_2, if_pos c_3]) d_M_standsIn_38
  · skip
    refine lv_bipush (v := (-2)) hx hb d_M_standsIn_11 (by decide) ?_
    exact pm_ret hx hb hr hlk (nar_i _) (by rw [f_M_standsIn, if_pos c_2]) d_M_standsIn_13
def f_M_flag (t : Int32) (k : Int32) : Int32 := (if (f_M_isType t) = 0 then 0 else (if k = 0 then (if t < 40 then 0 else 1) else (if k = 1 then (f_M_primitive t) else (if k = 2 then (f_M_isInterface t) else (if k = 3 then (if t = 20 then 1 else 0) else (if k = 4 then (if t = 16 then 1 else 0) else (if k = 5 then (if t = 14 then 1 else 0) else (if k = 6 then (if t = 13 then 1 else (if t = 16 then 1 else 0)) else (if k = 7 then (f_M_nameless t) else (if k = 8 then (if t = 23 then 1 else 0) else (if k = 9 then (f_M_member t) else (if k = 10 then (if t = 23 then 1 else (if t = 24 then 1 else 0)) else 0))))))))))))
set_option maxRecDepth 100000 in
theorem z_M_flag (t : Int32) (k : Int32) : f_M_flag t k = 0 ∨ f_M_flag t k = 1 := by
  unfold f_M_flag
  repeat' first | with_reducible refine z_ite ?_ ?_ | with_reducible exact z_M_isInterface _ | with_reducible exact z_M_isType _ | with_reducible exact z_M_member _ | with_reducible exact z_M_nameless _ | with_reducible exact z_M_primitive _ | with_reducible exact Or.inl rfl | with_reducible exact Or.inr rfl
set_option maxRecDepth 100000 in
theorem k_M_flag : ck y_M_flag b_M_flag 3 (some .boolean) 2 (.instanceMethod y_M_flag) := ⟨tk_of (List.mem_of_getElem? (i := 815) rfl) rfl, tk_of (List.mem_of_getElem? (i := 813) (by decide +kernel)) rfl, tk_of (List.mem_of_getElem? (i := 43) (by decide +kernel)) rfl, by decide +kernel⟩
theorem j_M_167 : Cond.methodLink R_M 167 y_M_isType ∈ tk := tk_of (List.mem_of_getElem? (i := 696) (by decide +kernel)) rfl
theorem j_M_102 : Cond.methodLink R_M 102 y_M_primitive ∈ tk := tk_of (List.mem_of_getElem? (i := 724) (by decide +kernel)) rfl
theorem j_M_151 : Cond.methodLink R_M 151 y_M_nameless ∈ tk := tk_of (List.mem_of_getElem? (i := 772) (by decide +kernel)) rfl
theorem j_M_174 : Cond.methodLink R_M 174 y_M_member ∈ tk := tk_of (List.mem_of_getElem? (i := 816) (by decide +kernel)) rfl
set_option maxHeartbeats 4000000 in
set_option maxRecDepth 100000 in
theorem c_M_flag (l : Launch) (h0 : Nat) (t : Int32) (k : Int32) : pmI l y_M_flag b_M_flag 3 .boolean 2 42 [.ref h0, .int t, .int k] (fun r => r = f_M_flag t k) := by
  refine pm_of (by decide) (Nat.le_of_ble_eq_true rfl) ?_
  intro p e s m below meth c ls hx hb hF hr hlk hN hl
  have hl : lv_has ls 3 [(0, .ref h0), (1, .int t), (2, .int k)] := hl
  refine lv_iload_n hx hb d_M_flag_0 rfl (lv_at hl 1 rfl) ?_
  refine pm_callE hF hN (c_M_isType l t) k_M_isType j_M_167 ⟨Nat.le_of_ble_eq_true rfl, Nat.le_of_ble_eq_true rfl⟩ rfl hl.1 (Nat.le_of_ble_eq_true rfl) d_M_flag_1 ⟨Nat.le_refl _, Nat.le_refl _⟩ ?_
  refine lv_if_ne (tgt := 9) hx hb d_M_flag_4 (by decide) (fun c_2 => ?_) (fun c_2 => ?_)
  · skip
    refine lv_iload_n hx hb d_M_flag_9 rfl (lv_at hl 2 rfl) ?_
    by_cases c_3 : k = 0
    · refine lv_tableIn (tgt := 64) (off := 54) hx hb d_M_flag_10 (by rw [c_3]; decide) (by rw [c_3]; decide) (by rw [c_3]; decide) (by decide) ?_
      refine lv_iload_n hx hb d_M_flag_64 rfl (lv_at hl 1 rfl) ?_
      refine lv_bipush (v := 40) hx hb d_M_flag_65 (by decide) ?_
      refine lv_icmp_lt (tgt := 74) hx hb d_M_flag_67 (by decide) (fun c_4 => ?_) (fun c_4 => ?_)
      · skip
        refine lv_iconst (v := 0) hx hb d_M_flag_74 (by decide) ?_
        exact pm_ret hx hb hr hlk (by decide) (by rw [f_M_flag, if_neg c_2, if_pos c_3, if_pos c_4]) d_M_flag_75
      · skip
        refine lv_iconst (v := 1) hx hb d_M_flag_70 (by decide) ?_
        refine lv_goto (tgt := 75) hx hb d_M_flag_71 (by decide) ?_
        exact pm_ret hx hb hr hlk (by decide) (by rw [f_M_flag, if_neg c_2, if_pos c_3, if_neg c_4]) d_M_flag_75
    by_cases c_5 : k = 1
    · refine lv_tableIn (tgt := 76) (off := 66) hx hb d_M_flag_10 (by rw [c_5]; decide) (by rw [c_5]; decide) (by rw [c_5]; decide) (by decide) ?_
      refine lv_iload_n hx hb d_M_flag_76 rfl (lv_at hl 1 rfl) ?_
      refine pm_callE hF hN (c_M_primitive l t) k_M_primitive j_M_102 ⟨Nat.le_of_ble_eq_true rfl, Nat.le_of_ble_eq_true rfl⟩ rfl hl.1 (Nat.le_of_ble_eq_true rfl) d_M_flag_77 ⟨Nat.le_refl _, Nat.le_refl _⟩ ?_
      exact pm_ret hx hb hr hlk (nar_z (z_M_primitive t)) (by rw [f_M_flag, if_neg c_2, if_neg c_3, if_pos c_5]) d_M_flag_80
    by_cases c_7 : k = 2
    · refine lv_tableIn (tgt := 81) (off := 71) hx hb d_M_flag_10 (by rw [c_7]; decide) (by rw [c_7]; decide) (by rw [c_7]; decide) (by decide) ?_
      refine lv_iload_n hx hb d_M_flag_81 rfl (lv_at hl 1 rfl) ?_
      refine pm_callE hF hN (c_M_isInterface l t) k_M_isInterface j_M_159 ⟨Nat.le_of_ble_eq_true rfl, Nat.le_of_ble_eq_true rfl⟩ rfl hl.1 (Nat.le_of_ble_eq_true rfl) d_M_flag_82 ⟨Nat.le_refl _, Nat.le_refl _⟩ ?_
      exact pm_ret hx hb hr hlk (nar_z (z_M_isInterface t)) (by rw [f_M_flag, if_neg c_2, if_neg c_3, if_neg c_5, if_pos c_7]) d_M_flag_85
    by_cases c_9 : k = 3
    · refine lv_tableIn (tgt := 86) (off := 76) hx hb d_M_flag_10 (by rw [c_9]; decide) (by rw [c_9]; decide) (by rw [c_9]; decide) (by decide) ?_
      refine lv_iload_n hx hb d_M_flag_86 rfl (lv_at hl 1 rfl) ?_
      refine lv_bipush (v := 20) hx hb d_M_flag_87 (by decide) ?_
      refine lv_icmp_ne (tgt := 96) hx hb d_M_flag_89 (by decide) (fun c_10 => ?_) (fun c_10 => ?_)
      · skip
        refine lv_iconst (v := 0) hx hb d_M_flag_96 (by decide) ?_
        exact pm_ret hx hb hr hlk (by decide) (by rw [f_M_flag, if_neg c_2, if_neg c_3, if_neg c_5, if_neg c_7, if_pos c_9, if_neg c_10]) d_M_flag_97
      · skip
        refine lv_iconst (v := 1) hx hb d_M_flag_92 (by decide) ?_
        refine lv_goto (tgt := 97) hx hb d_M_flag_93 (by decide) ?_
        exact pm_ret hx hb hr hlk (by decide) (by rw [f_M_flag, if_neg c_2, if_neg c_3, if_neg c_5, if_neg c_7, if_pos c_9, if_pos c_10]) d_M_flag_97
    by_cases c_11 : k = 4
    · refine lv_tableIn (tgt := 98) (off := 88) hx hb d_M_flag_10 (by rw [c_11]; decide) (by rw [c_11]; decide) (by rw [c_11]; decide) (by decide) ?_
      refine lv_iload_n hx hb d_M_flag_98 rfl (lv_at hl 1 rfl) ?_
      refine lv_bipush (v := 16) hx hb d_M_flag_99 (by decide) ?_
      refine lv_icmp_ne (tgt := 108) hx hb d_M_flag_101 (by decide) (fun c_12 => ?_) (fun c_12 => ?_)
      · skip
        refine lv_iconst (v := 0) hx hb d_M_flag_108 (by decide) ?_
        exact pm_ret hx hb hr hlk (by decide) (by rw [f_M_flag, if_neg c_2, if_neg c_3, if_neg c_5, if_neg c_7, if_neg c_9, if_pos c_11, if_neg c_12]) d_M_flag_109
      · skip
        refine lv_iconst (v := 1) hx hb d_M_flag_104 (by decide) ?_
        refine lv_goto (tgt := 109) hx hb d_M_flag_105 (by decide) ?_
        exact pm_ret hx hb hr hlk (by decide) (by rw [f_M_flag, if_neg c_2, if_neg c_3, if_neg c_5, if_neg c_7, if_neg c_9, if_pos c_11, if_pos c_12]) d_M_flag_109
    by_cases c_13 : k = 5
    · refine lv_tableIn (tgt := 110) (off := 100) hx hb d_M_flag_10 (by rw [c_13]; decide) (by rw [c_13]; decide) (by rw [c_13]; decide) (by decide) ?_
      refine lv_iload_n hx hb d_M_flag_110 rfl (lv_at hl 1 rfl) ?_
      refine lv_bipush (v := 14) hx hb d_M_flag_111 (by decide) ?_
      refine lv_icmp_ne (tgt := 120) hx hb d_M_flag_113 (by decide) (fun c_14 => ?_) (fun c_14 => ?_)
      · skip
        refine lv_iconst (v := 0) hx hb d_M_flag_120 (by decide) ?_
        exact pm_ret hx hb hr hlk (by decide) (by rw [f_M_flag, if_neg c_2, if_neg c_3, if_neg c_5, if_neg c_7, if_neg c_9, if_neg c_11, if_pos c_13, if_neg c_14]) d_M_flag_121
      · skip
        refine lv_iconst (v := 1) hx hb d_M_flag_116 (by decide) ?_
        refine lv_goto (tgt := 121) hx hb d_M_flag_117 (by decide) ?_
        exact pm_ret hx hb hr hlk (by decide) (by rw [f_M_flag, if_neg c_2, if_neg c_3, if_neg c_5, if_neg c_7, if_neg c_9, if_neg c_11, if_pos c_13, if_pos c_14]) d_M_flag_121
    by_cases c_15 : k = 6
    · refine lv_tableIn (tgt := 122) (off := 112) hx hb d_M_flag_10 (by rw [c_15]; decide) (by rw [c_15]; decide) (by rw [c_15]; decide) (by decide) ?_
      refine lv_iload_n hx hb d_M_flag_122 rfl (lv_at hl 1 rfl) ?_
      refine lv_bipush (v := 13) hx hb d_M_flag_123 (by decide) ?_
      refine lv_icmp_eq (tgt := 134) hx hb d_M_flag_125 (by decide) (fun c_16 => ?_) (fun c_16 => ?_)
      · skip
        refine lv_iconst (v := 1) hx hb d_M_flag_134 (by decide) ?_
        refine lv_goto (tgt := 139) hx hb d_M_flag_135 (by decide) ?_
        exact pm_ret hx hb hr hlk (by decide) (by rw [f_M_flag, if_neg c_2, if_neg c_3, if_neg c_5, if_neg c_7, if_neg c_9, if_neg c_11, if_neg c_13, if_pos c_15, if_pos c_16]) d_M_flag_139
      · skip
        refine lv_iload_n hx hb d_M_flag_128 rfl (lv_at hl 1 rfl) ?_
        refine lv_bipush (v := 16) hx hb d_M_flag_129 (by decide) ?_
        refine lv_icmp_ne (tgt := 138) hx hb d_M_flag_131 (by decide) (fun c_17 => ?_) (fun c_17 => ?_)
        · skip
          refine lv_iconst (v := 0) hx hb d_M_flag_138 (by decide) ?_
          exact pm_ret hx hb hr hlk (by decide) (by rw [f_M_flag, if_neg c_2, if_neg c_3, if_neg c_5, if_neg c_7, if_neg c_9, if_neg c_11, if_neg c_13, if_pos c_15, if_neg c_16, if_neg c_17]) d_M_flag_139
        · skip
          refine lv_iconst (v := 1) hx hb d_M_flag_134 (by decide) ?_
          refine lv_goto (tgt := 139) hx hb d_M_flag_135 (by decide) ?_
          exact pm_ret hx hb hr hlk (by decide) (by rw [f_M_flag, if_neg c_2, if_neg c_3, if_neg c_5, if_neg c_7, if_neg c_9, if_neg c_11, if_neg c_13, if_pos c_15, if_neg c_16, if_pos c_17]) d_M_flag_139
    by_cases c_18 : k = 7
    · refine lv_tableIn (tgt := 140) (off := 130) hx hb d_M_flag_10 (by rw [c_18]; decide) (by rw [c_18]; decide) (by rw [c_18]; decide) (by decide) ?_
      refine lv_iload_n hx hb d_M_flag_140 rfl (lv_at hl 1 rfl) ?_
      refine pm_callE hF hN (c_M_nameless l t) k_M_nameless j_M_151 ⟨Nat.le_of_ble_eq_true rfl, Nat.le_of_ble_eq_true rfl⟩ rfl hl.1 (Nat.le_of_ble_eq_true rfl) d_M_flag_141 ⟨Nat.le_refl _, Nat.le_refl _⟩ ?_
      exact pm_ret hx hb hr hlk (nar_z (z_M_nameless t)) (by rw [f_M_flag, if_neg c_2, if_neg c_3, if_neg c_5, if_neg c_7, if_neg c_9, if_neg c_11, if_neg c_13, if_neg c_15, if_pos c_18]) d_M_flag_144
    by_cases c_20 : k = 8
    · refine lv_tableIn (tgt := 145) (off := 135) hx hb d_M_flag_10 (by rw [c_20]; decide) (by rw [c_20]; decide) (by rw [c_20]; decide) (by decide) ?_
      refine lv_iload_n hx hb d_M_flag_145 rfl (lv_at hl 1 rfl) ?_
      refine lv_bipush (v := 23) hx hb d_M_flag_146 (by decide) ?_
      refine lv_icmp_ne (tgt := 155) hx hb d_M_flag_148 (by decide) (fun c_21 => ?_) (fun c_21 => ?_)
      · skip
        refine lv_iconst (v := 0) hx hb d_M_flag_155 (by decide) ?_
        exact pm_ret hx hb hr hlk (by decide) (by rw [f_M_flag, if_neg c_2, if_neg c_3, if_neg c_5, if_neg c_7, if_neg c_9, if_neg c_11, if_neg c_13, if_neg c_15, if_neg c_18, if_pos c_20, if_neg c_21]) d_M_flag_156
      · skip
        refine lv_iconst (v := 1) hx hb d_M_flag_151 (by decide) ?_
        refine lv_goto (tgt := 156) hx hb d_M_flag_152 (by decide) ?_
        exact pm_ret hx hb hr hlk (by decide) (by rw [f_M_flag, if_neg c_2, if_neg c_3, if_neg c_5, if_neg c_7, if_neg c_9, if_neg c_11, if_neg c_13, if_neg c_15, if_neg c_18, if_pos c_20, if_pos c_21]) d_M_flag_156
    by_cases c_22 : k = 9
    · refine lv_tableIn (tgt := 157) (off := 147) hx hb d_M_flag_10 (by rw [c_22]; decide) (by rw [c_22]; decide) (by rw [c_22]; decide) (by decide) ?_
      refine lv_iload_n hx hb d_M_flag_157 rfl (lv_at hl 1 rfl) ?_
      refine pm_callE hF hN (c_M_member l t) k_M_member j_M_174 ⟨Nat.le_of_ble_eq_true rfl, Nat.le_of_ble_eq_true rfl⟩ rfl hl.1 (Nat.le_of_ble_eq_true rfl) d_M_flag_158 ⟨Nat.le_refl _, Nat.le_refl _⟩ ?_
      exact pm_ret hx hb hr hlk (nar_z (z_M_member t)) (by rw [f_M_flag, if_neg c_2, if_neg c_3, if_neg c_5, if_neg c_7, if_neg c_9, if_neg c_11, if_neg c_13, if_neg c_15, if_neg c_18, if_neg c_20, if_pos c_22]) d_M_flag_161
    refine lv_tableOut (tgt := 162) hx hb d_M_flag_10 (by have := lv_neT (a := 0) c_3 (by decide); have := lv_neT (a := 1) c_5 (by decide); have := lv_neT (a := 2) c_7 (by decide); have := lv_neT (a := 3) c_9 (by decide); have := lv_neT (a := 4) c_11 (by decide); have := lv_neT (a := 5) c_13 (by decide); have := lv_neT (a := 6) c_15 (by decide); have := lv_neT (a := 7) c_18 (by decide); have := lv_neT (a := 8) c_20 (by decide); have := lv_neT (a := 9) c_22 (by decide); omega) (by decide) ?_
    refine lv_iload_n hx hb d_M_flag_162 rfl (lv_at hl 2 rfl) ?_
    refine lv_bipush (v := 10) hx hb d_M_flag_163 (by decide) ?_
    refine lv_icmp_ne (tgt := 184) hx hb d_M_flag_165 (by decide) (fun c_24 => ?_) (fun c_24 => ?_)
    · skip
      refine lv_iconst (v := 0) hx hb d_M_flag_184 (by decide) ?_
      exact pm_ret hx hb hr hlk (by decide) (by rw [f_M_flag, if_neg c_2, if_neg c_3, if_neg c_5, if_neg c_7, if_neg c_9, if_neg c_11, if_neg c_13, if_neg c_15, if_neg c_18, if_neg c_20, if_neg c_22, if_neg c_24]) d_M_flag_185
    · skip
      refine lv_iload_n hx hb d_M_flag_168 rfl (lv_at hl 1 rfl) ?_
      refine lv_bipush (v := 23) hx hb d_M_flag_169 (by decide) ?_
      refine lv_icmp_eq (tgt := 180) hx hb d_M_flag_171 (by decide) (fun c_25 => ?_) (fun c_25 => ?_)
      · skip
        refine lv_iconst (v := 1) hx hb d_M_flag_180 (by decide) ?_
        refine lv_goto (tgt := 185) hx hb d_M_flag_181 (by decide) ?_
        exact pm_ret hx hb hr hlk (by decide) (by rw [f_M_flag, if_neg c_2, if_neg c_3, if_neg c_5, if_neg c_7, if_neg c_9, if_neg c_11, if_neg c_13, if_neg c_15, if_neg c_18, if_neg c_20, if_neg c_22, if_pos c_24, if_pos c_25]) d_M_flag_185
      · skip
        refine lv_iload_n hx hb d_M_flag_174 rfl (lv_at hl 1 rfl) ?_
        refine lv_bipush (v := 24) hx hb d_M_flag_175 (by decide) ?_
        refine lv_icmp_ne (tgt := 184) hx hb d_M_flag_177 (by decide) (fun c_26 => ?_) (fun c_26 => ?_)
        · skip
          refine lv_iconst (v := 0) hx hb d_M_flag_184 (by decide) ?_
          exact pm_ret hx hb hr hlk (by decide) (by rw [f_M_flag, if_neg c_2, if_neg c_3, if_neg c_5, if_neg c_7, if_neg c_9, if_neg c_11, if_neg c_13, if_neg c_15, if_neg c_18, if_neg c_20, if_neg c_22, if_pos c_24, if_neg c_25, if_neg c_26]) d_M_flag_185
        · skip
          refine lv_iconst (v := 1) hx hb d_M_flag_180 (by decide) ?_
          refine lv_goto (tgt := 185) hx hb d_M_flag_181 (by decide) ?_
          exact pm_ret hx hb hr hlk (by decide) (by rw [f_M_flag, if_neg c_2, if_neg c_3, if_neg c_5, if_neg c_7, if_neg c_9, if_neg c_11, if_neg c_13, if_neg c_15, if_neg c_18, if_neg c_20, if_neg c_22, if_pos c_24, if_neg c_25, if_pos c_26]) d_M_flag_185
  · skip
    refine lv_iconst (v := 0) hx hb d_M_flag_7 (by decide) ?_
    exact pm_ret hx hb hr hlk (by decide) (by rw [f_M_flag, if_pos c_2]) d_M_flag_8
def f_M_related (t : Int32) (k : Int32) : Int32 := (if (f_M_isType t) = 0 then (-1) else (if (f_M_in k 0 5) = 0 then (-1) else (if k = 0 then (f_M_up t) else (if k = 1 then (if t < 40 then (-2) else (t - 40)) else (if k = 2 then (f_M_standsIn t) else (if k = 3 then (if (f_M_member t) = 0 then (-2) else (f_M_standsIn t)) else (if k = 4 then (if (f_M_in t 11 24) = 0 then t else 11) else (if t = 8 then (-2) else (if 80 ≤ t then (-3) else (t + 40))))))))))
set_option maxRecDepth 100000 in
theorem k_M_related : ck y_M_related b_M_related 3 (some .int) 2 (.instanceMethod y_M_related) := ⟨tk_of (List.mem_of_getElem? (i := 826) rfl) rfl, tk_of (List.mem_of_getElem? (i := 824) (by decide +kernel)) rfl, tk_of (List.mem_of_getElem? (i := 43) (by decide +kernel)) rfl, by decide +kernel⟩
theorem j_M_183 : Cond.methodLink R_M 183 y_M_standsIn ∈ tk := tk_of (List.mem_of_getElem? (i := 830) (by decide +kernel)) rfl
theorem j_M_180 : Cond.methodLink R_M 180 y_M_up ∈ tk := tk_of (List.mem_of_getElem? (i := 827) (by decide +kernel)) rfl
set_option maxHeartbeats 4000000 in
set_option maxRecDepth 100000 in
theorem c_M_related (l : Launch) (h0 : Nat) (t : Int32) (k : Int32) : pmI l y_M_related b_M_related 3 .int 2 42 [.ref h0, .int t, .int k] (fun r => r = f_M_related t k) := by
  refine pm_of (by decide) (Nat.le_of_ble_eq_true rfl) ?_
  intro p e s m below meth c ls hx hb hF hr hlk hN hl
  have hl : lv_has ls 3 [(0, .ref h0), (1, .int t), (2, .int k)] := hl
  refine lv_iload_n hx hb d_M_related_0 rfl (lv_at hl 1 rfl) ?_
  refine pm_callE hF hN (c_M_isType l t) k_M_isType j_M_167 ⟨Nat.le_of_ble_eq_true rfl, Nat.le_of_ble_eq_true rfl⟩ rfl hl.1 (Nat.le_of_ble_eq_true rfl) d_M_related_1 ⟨Nat.le_refl _, Nat.le_refl _⟩ ?_
  refine lv_if_eq (tgt := 16) hx hb d_M_related_4 (by decide) (fun c_2 => ?_) (fun c_2 => ?_)
  · skip
    refine lv_iconst (v := (-1)) hx hb d_M_related_16 (by decide) ?_
    exact pm_ret hx hb hr hlk (nar_i _) (by rw [f_M_related, if_pos c_2]) d_M_related_17
  · skip
    refine lv_iload_n hx hb d_M_related_7 rfl (lv_at hl 2 rfl) ?_
    refine lv_iconst (v := 0) hx hb d_M_related_8 (by decide) ?_
    refine lv_iconst (v := 5) hx hb d_M_related_9 (by decide) ?_
    refine pm_callE hF hN (c_M_in l k 0 5) k_M_in j_M_26 ⟨Nat.le_of_ble_eq_true rfl, Nat.le_of_ble_eq_true rfl⟩ rfl hl.1 (Nat.le_of_ble_eq_true rfl) d_M_related_10 ⟨Nat.le_refl _, Nat.le_refl _⟩ ?_
    refine lv_if_ne (tgt := 18) hx hb d_M_related_13 (by decide) (fun c_4 => ?_) (fun c_4 => ?_)
    · skip
      refine lv_iload_n hx hb d_M_related_18 rfl (lv_at hl 2 rfl) ?_
      refine lv_if_ne (tgt := 27) hx hb d_M_related_19 (by decide) (fun c_5 => ?_) (fun c_5 => ?_)
      · skip
        refine lv_iload_n hx hb d_M_related_27 rfl (lv_at hl 2 rfl) ?_
        refine lv_iconst (v := 1) hx hb d_M_related_28 (by decide) ?_
        refine lv_icmp_ne (tgt := 48) hx hb d_M_related_29 (by decide) (fun c_6 => ?_) (fun c_6 => ?_)
        · skip
          refine lv_iload_n hx hb d_M_related_48 rfl (lv_at hl 2 rfl) ?_
          refine lv_iconst (v := 2) hx hb d_M_related_49 (by decide) ?_
          refine lv_icmp_ne (tgt := 58) hx hb d_M_related_50 (by decide) (fun c_7 => ?_) (fun c_7 => ?_)
          · skip
            refine lv_iload_n hx hb d_M_related_58 rfl (lv_at hl 2 rfl) ?_
            refine lv_iconst (v := 3) hx hb d_M_related_59 (by decide) ?_
            refine lv_icmp_ne (tgt := 80) hx hb d_M_related_60 (by decide) (fun c_8 => ?_) (fun c_8 => ?_)
            · skip
              refine lv_iload_n hx hb d_M_related_80 rfl (lv_at hl 2 rfl) ?_
              refine lv_iconst (v := 4) hx hb d_M_related_81 (by decide) ?_
              refine lv_icmp_ne (tgt := 103) hx hb d_M_related_82 (by decide) (fun c_9 => ?_) (fun c_9 => ?_)
              · skip
                refine lv_iload_n hx hb d_M_related_103 rfl (lv_at hl 1 rfl) ?_
                refine lv_bipush (v := 8) hx hb d_M_related_104 (by decide) ?_
                refine lv_icmp_ne (tgt := 114) hx hb d_M_related_106 (by decide) (fun c_10 => ?_) (fun c_10 => ?_)
                · skip
                  refine lv_iload_n hx hb d_M_related_114 rfl (lv_at hl 1 rfl) ?_
                  refine lv_bipush (v := 80) hx hb d_M_related_115 (by decide) ?_
                  refine lv_icmp_ge (tgt := 127) hx hb d_M_related_117 (by decide) (fun c_11 => ?_) (fun c_11 => ?_)
                  · skip
                    refine lv_bipush (v := (-3)) hx hb d_M_related_127 (by decide) ?_
                    exact pm_ret hx hb hr hlk (nar_i _) (by rw [f_M_related, if_neg c_2, if_neg c_4, if_neg c_5, if_neg c_6, if_neg c_7, if_neg c_8, if_neg c_9, if_neg c_10, if_pos c_11]) d_M_related_129
                  · skip
                    refine lv_iload_n hx hb d_M_related_120 rfl (lv_at hl 1 rfl) ?_
                    refine lv_bipush (v := 40) hx hb d_M_related_121 (by decide) ?_
                    refine lv_iadd hx hb d_M_related_123 ?_
                    refine lv_goto (tgt := 129) hx hb d_M_related_124 (by decide) ?_
                    exact pm_ret hx hb hr hlk (nar_i _) (by rw [f_M_related, if_neg c_2, if_neg c_4, if_neg c_5, if_neg c_6, if_neg c_7, if_neg c_8, if_neg c_9, if_neg c_10, if_neg c_11]) d_M_related_129
                · skip
                  refine lv_bipush (v := (-2)) hx hb d_M_related_109 (by decide) ?_
                  refine lv_goto (tgt := 129) hx hb d_M_related_111 (by decide) ?_
                  exact pm_ret hx hb hr hlk (nar_i _) (by rw [f_M_related, if_neg c_2, if_neg c_4, if_neg c_5, if_neg c_6, if_neg c_7, if_neg c_8, if_neg c_9, if_pos c_10]) d_M_related_129
              · skip
                refine lv_iload_n hx hb d_M_related_85 rfl (lv_at hl 1 rfl) ?_
                refine lv_bipush (v := 11) hx hb d_M_related_86 (by decide) ?_
                refine lv_bipush (v := 24) hx hb d_M_related_88 (by decide) ?_
                refine pm_callE hF hN (c_M_in l t 11 24) k_M_in j_M_26 ⟨Nat.le_of_ble_eq_true rfl, Nat.le_of_ble_eq_true rfl⟩ rfl hl.1 (Nat.le_of_ble_eq_true rfl) d_M_related_90 ⟨Nat.le_refl _, Nat.le_refl _⟩ ?_
                refine lv_if_eq (tgt := 101) hx hb d_M_related_93 (by decide) (fun c_13 => ?_) (fun c_13 => ?_)
                · skip
                  refine lv_iload_n hx hb d_M_related_101 rfl (lv_at hl 1 rfl) ?_
                  exact pm_ret hx hb hr hlk (nar_i _) (by rw [f_M_related, if_neg c_2, if_neg c_4, if_neg c_5, if_neg c_6, if_neg c_7, if_neg c_8, if_pos c_9, if_pos c_13]) d_M_related_102
                · skip
                  refine lv_bipush (v := 11) hx hb d_M_related_96 (by decide) ?_
                  refine lv_goto (tgt := 102) hx hb d_M_related_98 (by decide) ?_
                  exact pm_ret hx hb hr hlk (nar_i _) (by rw [f_M_related, if_neg c_2, if_neg c_4, if_neg c_5, if_neg c_6, if_neg c_7, if_neg c_8, if_pos c_9, if_neg c_13]) d_M_related_102
            · skip
              refine lv_iload_n hx hb d_M_related_63 rfl (lv_at hl 1 rfl) ?_
              refine pm_callE hF hN (c_M_member l t) k_M_member j_M_174 ⟨Nat.le_of_ble_eq_true rfl, Nat.le_of_ble_eq_true rfl⟩ rfl hl.1 (Nat.le_of_ble_eq_true rfl) d_M_related_64 ⟨Nat.le_refl _, Nat.le_refl _⟩ ?_
              refine lv_if_eq (tgt := 77) hx hb d_M_related_67 (by decide) (fun c_15 => ?_) (fun c_15 => ?_)
              · skip
                refine lv_bipush (v := (-2)) hx hb d_M_related_77 (by decide) ?_
                exact pm_ret hx hb hr hlk (nar_i _) (by rw [f_M_related, if_neg c_2, if_neg c_4, if_neg c_5, if_neg c_6, if_neg c_7, if_pos c_8, if_pos c_15]) d_M_related_79
              · skip
                refine lv_iload_n hx hb d_M_related_70 rfl (lv_at hl 1 rfl) ?_
                refine pm_callE hF hN (c_M_standsIn l t) k_M_standsIn j_M_183 ⟨Nat.le_of_ble_eq_true rfl, Nat.le_of_ble_eq_true rfl⟩ rfl hl.1 (Nat.le_of_ble_eq_true rfl) d_M_related_71 ⟨Nat.le_refl _, Nat.le_refl _⟩ ?_
                refine lv_goto (tgt := 79) hx hb d_M_related_74 (by decide) ?_
                exact pm_ret hx hb hr hlk (nar_i _) (by rw [f_M_related, if_neg c_2, if_neg c_4, if_neg c_5, if_neg c_6, if_neg c_7, if_pos c_8, if_neg c_15]) d_M_related_79
          · skip
            refine lv_iload_n hx hb d_M_related_53 rfl (lv_at hl 1 rfl) ?_
            refine pm_callE hF hN (c_M_standsIn l t) k_M_standsIn j_M_183 ⟨Nat.le_of_ble_eq_true rfl, Nat.le_of_ble_eq_true rfl⟩ rfl hl.1 (Nat.le_of_ble_eq_true rfl) d_M_related_54 ⟨Nat.le_refl _, Nat.le_refl _⟩ ?_
            exact pm_ret hx hb hr hlk (nar_i _) (by rw [f_M_related, if_neg c_2, if_neg c_4, if_neg c_5, if_neg c_6, if_pos c_7]) d_M_related_57
        · skip
          refine lv_iload_n hx hb d_M_related_32 rfl (lv_at hl 1 rfl) ?_
          refine lv_bipush (v := 40) hx hb d_M_related_33 (by decide) ?_
          refine lv_icmp_lt (tgt := 45) hx hb d_M_related_35 (by decide) (fun c_18 => ?_) (fun c_18 => ?_)
          · skip
            refine lv_bipush (v := (-2)) hx hb d_M_related_45 (by decide) ?_
            exact pm_ret hx hb hr hlk (nar_i _) (by rw [f_M_related, if_neg c_2, if_neg c_4, if_neg c_5, if_pos c_6, if_pos c_18]) d_M_related_47
          · skip
            refine lv_iload_n hx hb d_M_related_38 rfl (lv_at hl 1 rfl) ?_
            refine lv_bipush (v := 40) hx hb d_M_related_39 (by decide) ?_
            refine lv_isub hx hb d_M_related_41 ?_
            refine lv_goto (tgt := 47) hx hb d_M_related_42 (by decide) ?_
            exact pm_ret hx hb hr hlk (nar_i _) (by rw [f_M_related, if_neg c_2, if_neg c_4, if_neg c_5, if_pos c_6, if_neg c_18]) d_M_related_47
      · skip
        refine lv_iload_n hx hb d_M_related_22 rfl (lv_at hl 1 rfl) ?_
        refine pm_callE hF hN (c_M_up l t) k_M_up j_M_180 ⟨Nat.le_of_ble_eq_true rfl, Nat.le_of_ble_eq_true rfl⟩ rfl hl.1 (Nat.le_of_ble_eq_true rfl) d_M_related_23 ⟨Nat.le_refl _, Nat.le_refl _⟩ ?_
        exact pm_ret hx hb hr hlk (nar_i _) (by rw [f_M_related, if_neg c_2, if_neg c_4, if_pos c_5]) d_M_related_26
    · skip
      refine lv_iconst (v := (-1)) hx hb d_M_related_16 (by decide) ?_
      exact pm_ret hx hb hr hlk (nar_i _) (by rw [f_M_related, if_neg c_2, if_pos c_4]) d_M_related_17
def f_M_interfaceOf (t : Int32) (k : Int32) : Int32 := (if (f_M_isType t) = 0 then (-1) else (if t < 40 then (if t = 15 then (if k = 1 then 12 else (if k = 0 then (if t = 14 then 13 else 13) else (-2))) else (if k = 0 then (if t = 14 then 13 else (if t = 20 then (-3) else (if t = 21 then (-3) else (if t = 23 then 12 else (if t = 24 then 10 else (-2)))))) else (-2))) else (if (f_M_in k 0 1) = 0 then (-2) else (-3))))
set_option maxRecDepth 100000 in
theorem k_M_interfaceOf : ck y_M_interfaceOf b_M_interfaceOf 3 (some .int) 2 (.instanceMethod y_M_interfaceOf) := ⟨tk_of (List.mem_of_getElem? (i := 836) rfl) rfl, tk_of (List.mem_of_getElem? (i := 834) (by decide +kernel)) rfl, tk_of (List.mem_of_getElem? (i := 43) (by decide +kernel)) rfl, by decide +kernel⟩
set_option maxHeartbeats 4000000 in
set_option maxRecDepth 100000 in
theorem c_M_interfaceOf (l : Launch) (h0 : Nat) (t : Int32) (k : Int32) : pmI l y_M_interfaceOf b_M_interfaceOf 3 .int 2 42 [.ref h0, .int t, .int k] (fun r => r = f_M_interfaceOf t k) := by
  refine pm_of (by decide) (Nat.le_of_ble_eq_true rfl) ?_
  intro p e s m below meth c ls hx hb hF hr hlk hN hl
  have hl : lv_has ls 3 [(0, .ref h0), (1, .int t), (2, .int k)] := hl
  refine lv_iload_n hx hb d_M_interfaceOf_0 rfl (lv_at hl 1 rfl) ?_
  refine pm_callE hF hN (c_M_isType l t) k_M_isType j_M_167 ⟨Nat.le_of_ble_eq_true rfl, Nat.le_of_ble_eq_true rfl⟩ rfl hl.1 (Nat.le_of_ble_eq_true rfl) d_M_interfaceOf_1 ⟨Nat.le_refl _, Nat.le_refl _⟩ ?_
  refine lv_if_ne (tgt := 9) hx hb d_M_interfaceOf_4 (by decide) (fun c_2 => ?_) (fun c_2 => ?_)
  · skip
    refine lv_iload_n hx hb d_M_interfaceOf_9 rfl (lv_at hl 1 rfl) ?_
    refine lv_bipush (v := 40) hx hb d_M_interfaceOf_10 (by decide) ?_
    refine lv_icmp_lt (tgt := 32) hx hb d_M_interfaceOf_12 (by decide) (fun c_3 => ?_) (fun c_3 => ?_)
    · skip
      refine lv_iload_n hx hb d_M_interfaceOf_32 rfl (lv_at hl 1 rfl) ?_
      refine lv_bipush (v := 15) hx hb d_M_interfaceOf_33 (by decide) ?_
      refine lv_icmp_ne (tgt := 46) hx hb d_M_interfaceOf_35 (by decide) (fun c_4 => ?_) (fun c_4 => ?_)
      · skip
        refine lv_iload_n hx hb d_M_interfaceOf_46 rfl (lv_at hl 2 rfl) ?_
        refine lv_if_eq (tgt := 53) hx hb d_M_interfaceOf_47 (by decide) (fun c_5 => ?_) (fun c_5 => ?_)
        · skip
          refine lv_iload_n hx hb d_M_interfaceOf_53 rfl (lv_at hl 1 rfl) ?_
          refine lv_bipush (v := 14) hx hb d_M_interfaceOf_54 (by decide) ?_
          refine lv_icmp_eq (tgt := 65) hx hb d_M_interfaceOf_56 (by decide) (fun c_6 => ?_) (fun c_6 => ?_)
          · skip
            refine lv_bipush (v := 13) hx hb d_M_interfaceOf_65 (by decide) ?_
            exact pm_ret hx hb hr hlk (nar_i _) (by rw [f_M_interfaceOf, if_neg c_2, if_pos c_3, if_neg c_4, if_pos c_5, if_pos c_6]) d_M_interfaceOf_67
          · skip
            refine lv_iload_n hx hb d_M_interfaceOf_59 rfl (lv_at hl 1 rfl) ?_
            refine lv_bipush (v := 15) hx hb d_M_interfaceOf_60 (by decide) ?_
            refine lv_icmp_ne (tgt := 68) hx hb d_M_interfaceOf_62 (by decide) (fun c_7 => ?_) (fun c_7 => ?_)
            · skip
              refine lv_iload_n hx hb d_M_interfaceOf_68 rfl (lv_at hl 1 rfl) ?_
              refine lv_bipush (v := 20) hx hb d_M_interfaceOf_69 (by decide) ?_
              refine lv_icmp_eq (tgt := 80) hx hb d_M_interfaceOf_71 (by decide) (fun c_8 => ?_) (fun c_8 => ?_)
              · skip
                refine lv_bipush (v := (-3)) hx hb d_M_interfaceOf_80 (by decide) ?_
                exact pm_ret hx hb hr hlk (nar_i _) (by rw [f_M_interfaceOf, if_neg c_2, if_pos c_3, if_neg c_4, if_pos c_5, if_neg c_6, if_pos c_8]) d_M_interfaceOf_82
              · skip
                refine lv_iload_n hx hb d_M_interfaceOf_74 rfl (lv_at hl 1 rfl) ?_
                refine lv_bipush (v := 21) hx hb d_M_interfaceOf_75 (by decide) ?_
                refine lv_icmp_ne (tgt := 83) hx hb d_M_interfaceOf_77 (by decide) (fun c_9 => ?_) (fun c_9 => ?_)
                · skip
                  refine lv_iload_n hx hb d_M_interfaceOf_83 rfl (lv_at hl 1 rfl) ?_
                  refine lv_bipush (v := 23) hx hb d_M_interfaceOf_84 (by decide) ?_
                  refine lv_icmp_ne (tgt := 94) hx hb d_M_interfaceOf_86 (by decide) (fun c_10 => ?_) (fun c_10 => ?_)
                  · skip
                    refine lv_iload_n hx hb d_M_interfaceOf_94 rfl (lv_at hl 1 rfl) ?_
                    refine lv_bipush (v := 24) hx hb d_M_interfaceOf_95 (by decide) ?_
                    refine lv_icmp_ne (tgt := 105) hx hb d_M_interfaceOf_97 (by decide) (fun c_11 => ?_) (fun c_11 => ?_)
                    · skip
                      refine lv_bipush (v := (-2)) hx hb d_M_interfaceOf_105 (by decide) ?_
                      exact pm_ret hx hb hr hlk (nar_i _) (by rw [f_M_interfaceOf, if_neg c_2, if_pos c_3, if_neg c_4, if_pos c_5, if_neg c_6, if_neg c_8, if_neg c_9, if_neg c_10, if_neg c_11]) d_M_interfaceOf_107
                    · skip
                      refine lv_bipush (v := 10) hx hb d_M_interfaceOf_100 (by decide) ?_
                      refine lv_goto (tgt := 107) hx hb d_M_interfaceOf_102 (by decide) ?_
                      exact pm_ret hx hb hr hlk (nar_i _) (by rw [f_M_interfaceOf, if_neg c_2, if_pos c_3, if_neg c_4, if_pos c_5, if_neg c_6, if_neg c_8, if_neg c_9, if_neg c_10, if_pos c_11]) d_M_interfaceOf_107
                  · skip
                    refine lv_bipush (v := 12) hx hb d_M_interfaceOf_89 (by decide) ?_
                    refine lv_goto (tgt := 107) hx hb d_M_interfaceOf_91 (by decide) ?_
                    exact pm_ret hx hb hr hlk (nar_i _) (by rw [f_M_interfaceOf, if_neg c_2, if_pos c_3, if_neg c_4, if_pos c_5, if_neg c_6, if_neg c_8, if_neg c_9, if_pos c_10]) d_M_interfaceOf_107
                · skip
                  refine lv_bipush (v := (-3)) hx hb d_M_interfaceOf_80 (by decide) ?_
                  exact pm_ret hx hb hr hlk (nar_i _) (by rw [f_M_interfaceOf, if_neg c_2, if_pos c_3, if_neg c_4, if_pos c_5, if_neg c_6, if_neg c_8, if_pos c_9]) d_M_interfaceOf_82
            · exact absurd c_7 c_4
        · skip
          refine lv_bipush (v := (-2)) hx hb d_M_interfaceOf_50 (by decide) ?_
          exact pm_ret hx hb hr hlk (nar_i _) (by rw [f_M_interfaceOf, if_neg c_2, if_pos c_3, if_neg c_4, if_neg c_5]) d_M_interfaceOf_52
      · skip
        refine lv_iload_n hx hb d_M_interfaceOf_38 rfl (lv_at hl 2 rfl) ?_
        refine lv_iconst (v := 1) hx hb d_M_interfaceOf_39 (by decide) ?_
        refine lv_icmp_ne (tgt := 46) hx hb d_M_interfaceOf_40 (by decide) (fun c_12 => ?_) (fun c_12 => ?_)
        · skip
          refine lv_iload_n hx hb d_M_interfaceOf_46 rfl (lv_at hl 2 rfl) ?_
          refine lv_if_eq (tgt := 53) hx hb d_M_interfaceOf_47 (by decide) (fun c_13 => ?_) (fun c_13 => ?_)
          · skip
            refine lv_iload_n hx hb d_M_interfaceOf_53 rfl (lv_at hl 1 rfl) ?_
            refine lv_bipush (v := 14) hx hb d_M_interfaceOf_54 (by decide) ?_
            refine lv_icmp_eq (tgt := 65) hx hb d_M_interfaceOf_56 (by decide) (fun c_14 => ?_) (fun c_14 => ?_)
            · skip
              refine lv_bipush (v := 13) hx hb d_M_interfaceOf_65 (by decide) ?_
              exact pm_ret hx hb hr hlk (nar_i _) (by rw [f_M_interfaceOf, if_neg c_2, if_pos c_3, if_pos c_4, if_neg c_12, if_pos c_13, if_pos c_14]) d_M_interfaceOf_67
            · skip
              refine lv_iload_n hx hb d_M_interfaceOf_59 rfl (lv_at hl 1 rfl) ?_
              refine lv_bipush (v := 15) hx hb d_M_interfaceOf_60 (by decide) ?_
              refine lv_icmp_ne (tgt := 68) hx hb d_M_interfaceOf_62 (by decide) (fun c_15 => ?_) (fun c_15 => ?_)
              · exact absurd c_4 c_15
              · skip
                refine lv_bipush (v := 13) hx hb d_M_interfaceOf_65 (by decide) ?_
                exact pm_ret hx hb hr hlk (nar_i _) (by rw [f_M_interfaceOf, if_neg c_2, if_pos c_3, if_pos c_4, if_neg c_12, if_pos c_13, if_neg c_14]) d_M_interfaceOf_67
          · skip
            refine lv_bipush (v := (-2)) hx hb d_M_interfaceOf_50 (by decide) ?_
            exact pm_ret hx hb hr hlk (nar_i _) (by rw [f_M_interfaceOf, if_neg c_2, if_pos c_3, if_pos c_4, if_neg c_12, if_neg c_13]) d_M_interfaceOf_52
        · skip
          refine lv_bipush (v := 12) hx hb d_M_interfaceOf_43 (by decide) ?_
          exact pm_ret hx hb hr hlk (nar_i _) (by rw [f_M_interfaceOf, if_neg c_2, if_pos c_3, if_pos c_4, if_pos c_12]) d_M_interfaceOf_45
    · skip
      refine lv_iload_n hx hb d_M_interfaceOf_15 rfl (lv_at hl 2 rfl) ?_
      refine lv_iconst (v := 0) hx hb d_M_interfaceOf_16 (by decide) ?_
      refine lv_iconst (v := 1) hx hb d_M_interfaceOf_17 (by decide) ?_
      refine pm_callE hF hN (c_M_in l k 0 1) k_M_in j_M_26 ⟨Nat.le_of_ble_eq_true rfl, Nat.le_of_ble_eq_true rfl⟩ rfl hl.1 (Nat.le_of_ble_eq_true rfl) d_M_interfaceOf_18 ⟨Nat.le_refl _, Nat.le_refl _⟩ ?_
      refine lv_if_eq (tgt := 29) hx hb d_M_interfaceOf_21 (by decide) (fun c_17 => ?_) (fun c_17 => ?_)
      · skip
        refine lv_bipush (v := (-2)) hx hb d_M_interfaceOf_29 (by decide) ?_
        exact pm_ret hx hb hr hlk (nar_i _) (by rw [f_M_interfaceOf, if_neg c_2, if_neg c_3, if_pos c_17]) d_M_interfaceOf_31
      · skip
        refine lv_bipush (v := (-3)) hx hb d_M_interfaceOf_24 (by decide) ?_
        refine lv_goto (tgt := 31) hx hb d_M_interfaceOf_26 (by decide) ?_
        exact pm_ret hx hb hr hlk (nar_i _) (by rw [f_M_interfaceOf, if_neg c_2, if_neg c_3, if_neg c_17]) d_M_interfaceOf_31
  · skip
    refine lv_iconst (v := (-1)) hx hb d_M_interfaceOf_7 (by decide) ?_
    exact pm_ret hx hb hr hlk (nar_i _) (by rw [f_M_interfaceOf, if_pos c_2]) d_M_interfaceOf_8
def f_M_nestmates (u : Int32) (t : Int32) : Int32 := (if (f_M_isType u) = 0 then 0 else (if (f_M_isType t) = 0 then 0 else (if u = t then 1 else (if (f_M_in u 11 24) = 0 then 0 else (if (f_M_in t 11 24) = 0 then 0 else 1)))))
set_option maxRecDepth 100000 in
theorem z_M_nestmates (u : Int32) (t : Int32) : f_M_nestmates u t = 0 ∨ f_M_nestmates u t = 1 := by
  unfold f_M_nestmates
  repeat' first | with_reducible refine z_ite ?_ ?_ | with_reducible exact z_M_in _ _ _ | with_reducible exact z_M_isType _ | with_reducible exact Or.inl rfl | with_reducible exact Or.inr rfl
set_option maxRecDepth 100000 in
theorem k_M_nestmates : ck y_M_nestmates b_M_nestmates 3 (some .boolean) 2 (.instanceMethod y_M_nestmates) := ⟨tk_of (List.mem_of_getElem? (i := 851) rfl) rfl, tk_of (List.mem_of_getElem? (i := 849) (by decide +kernel)) rfl, tk_of (List.mem_of_getElem? (i := 43) (by decide +kernel)) rfl, by decide +kernel⟩
set_option maxHeartbeats 4000000 in
set_option maxRecDepth 100000 in
theorem c_M_nestmates (l : Launch) (h0 : Nat) (u : Int32) (t : Int32) : pmI l y_M_nestmates b_M_nestmates 3 .boolean 2 42 [.ref h0, .int u, .int t] (fun r => r = f_M_nestmates u t) := by
  refine pm_of (by decide) (Nat.le_of_ble_eq_true rfl) ?_
  intro p e s m below meth c ls hx hb hF hr hlk hN hl
  have hl : lv_has ls 3 [(0, .ref h0), (1, .int u), (2, .int t)] := hl
  refine lv_iload_n hx hb d_M_nestmates_0 rfl (lv_at hl 1 rfl) ?_
  refine pm_callE hF hN (c_M_isType l u) k_M_isType j_M_167 ⟨Nat.le_of_ble_eq_true rfl, Nat.le_of_ble_eq_true rfl⟩ rfl hl.1 (Nat.le_of_ble_eq_true rfl) d_M_nestmates_1 ⟨Nat.le_refl _, Nat.le_refl _⟩ ?_
  refine lv_if_eq (tgt := 45) hx hb d_M_nestmates_4 (by decide) (fun c_2 => ?_) (fun c_2 => ?_)
  · skip
    refine lv_iconst (v := 0) hx hb d_M_nestmates_45 (by decide) ?_
    exact pm_ret hx hb hr hlk (by decide) (by rw [f_M_nestmates, if_pos c_2]) d_M_nestmates_46
  · skip
    refine lv_iload_n hx hb d_M_nestmates_7 rfl (lv_at hl 2 rfl) ?_
    refine pm_callE hF hN (c_M_isType l t) k_M_isType j_M_167 ⟨Nat.le_of_ble_eq_true rfl, Nat.le_of_ble_eq_true rfl⟩ rfl hl.1 (Nat.le_of_ble_eq_true rfl) d_M_nestmates_8 ⟨Nat.le_refl _, Nat.le_refl _⟩ ?_
    refine lv_if_eq (tgt := 45) hx hb d_M_nestmates_11 (by decide) (fun c_4 => ?_) (fun c_4 => ?_)
    · skip
      refine lv_iconst (v := 0) hx hb d_M_nestmates_45 (by decide) ?_
      exact pm_ret hx hb hr hlk (by decide) (by rw [f_M_nestmates, if_neg c_2, if_pos c_4]) d_M_nestmates_46
    · skip
      refine lv_iload_n hx hb d_M_nestmates_14 rfl (lv_at hl 1 rfl) ?_
      refine lv_iload_n hx hb d_M_nestmates_15 rfl (lv_at hl 2 rfl) ?_
      refine lv_icmp_eq (tgt := 41) hx hb d_M_nestmates_16 (by decide) (fun c_5 => ?_) (fun c_5 => ?_)
      · skip
        refine lv_iconst (v := 1) hx hb d_M_nestmates_41 (by decide) ?_
        refine lv_goto (tgt := 46) hx hb d_M_nestmates_42 (by decide) ?_
        exact pm_ret hx hb hr hlk (by decide) (by rw [f_M_nestmates, if_neg c_2, if_neg c_4, if_pos c_5]) d_M_nestmates_46
      · skip
        refine lv_iload_n hx hb d_M_nestmates_19 rfl (lv_at hl 1 rfl) ?_
        refine lv_bipush (v := 11) hx hb d_M_nestmates_20 (by decide) ?_
        refine lv_bipush (v := 24) hx hb d_M_nestmates_22 (by decide) ?_
        refine pm_callE hF hN (c_M_in l u 11 24) k_M_in j_M_26 ⟨Nat.le_of_ble_eq_true rfl, Nat.le_of_ble_eq_true rfl⟩ rfl hl.1 (Nat.le_of_ble_eq_true rfl) d_M_nestmates_24 ⟨Nat.le_refl _, Nat.le_refl _⟩ ?_
        refine lv_if_eq (tgt := 45) hx hb d_M_nestmates_27 (by decide) (fun c_7 => ?_) (fun c_7 => ?_)
        · skip
          refine lv_iconst (v := 0) hx hb d_M_nestmates_45 (by decide) ?_
          exact pm_ret hx hb hr hlk (by decide) (by rw [f_M_nestmates, if_neg c_2, if_neg c_4, if_neg c_5, if_pos c_7]) d_M_nestmates_46
        · skip
          refine lv_iload_n hx hb d_M_nestmates_30 rfl (lv_at hl 2 rfl) ?_
          refine lv_bipush (v := 11) hx hb d_M_nestmates_31 (by decide) ?_
          refine lv_bipush (v := 24) hx hb d_M_nestmates_33 (by decide) ?_
          refine pm_callE hF hN (c_M_in l t 11 24) k_M_in j_M_26 ⟨Nat.le_of_ble_eq_true rfl, Nat.le_of_ble_eq_true rfl⟩ rfl hl.1 (Nat.le_of_ble_eq_true rfl) d_M_nestmates_35 ⟨Nat.le_refl _, Nat.le_refl _⟩ ?_
          refine lv_if_eq (tgt := 45) hx hb d_M_nestmates_38 (by decide) (fun c_9 => ?_) (fun c_9 => ?_)
          · skip
            refine lv_iconst (v := 0) hx hb d_M_nestmates_45 (by decide) ?_
            exact pm_ret hx hb hr hlk (by decide) (by rw [f_M_nestmates, if_neg c_2, if_neg c_4, if_neg c_5, if_neg c_7, if_pos c_9]) d_M_nestmates_46
          · skip
            refine lv_iconst (v := 1) hx hb d_M_nestmates_41 (by decide) ?_
            refine lv_goto (tgt := 46) hx hb d_M_nestmates_42 (by decide) ?_
            exact pm_ret hx hb hr hlk (by decide) (by rw [f_M_nestmates, if_neg c_2, if_neg c_4, if_neg c_5, if_neg c_7, if_neg c_9]) d_M_nestmates_46
