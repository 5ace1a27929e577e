def f_B_levels (t : Int32) : Int32 := (t / 40)
set_option maxRecDepth 100000 in
theorem k_B_levels : ck y_B_levels b_B_levels 1 (some .int) 1 (.static y_B_levels) := ⟨tk_of (List.mem_of_getElem? (i := 138) rfl) rfl, tk_of (List.mem_of_getElem? (i := 137) (by decide +kernel)) rfl, tk_of (List.mem_of_getElem? (i := 44) (by decide +kernel)) rfl, by decide +kernel⟩
set_option maxHeartbeats 4000000 in
set_option maxRecDepth 100000 in
theorem c_B_levels (l : Launch) (t : Int32) : pmI l y_B_levels b_B_levels 1 .int 0 0 [.int t] (fun r => r = f_B_levels t) := by
  refine pm_of (by decide) (Nat.le_of_ble_eq_true rfl) ?_
  intro p e s m below meth c ls hx hb hF hr hlk hN hl
  have hl : lv_has ls 1 [(0, .int t)] := hl
  refine lv_iload_n hx hb d_B_levels_0 rfl (lv_at hl 0 rfl) ?_
  refine lv_bipush (v := 40) hx hb d_B_levels_1 (by decide) ?_
  refine lv_idiv hx hb d_B_levels_3 (by decide) ?_
  exact pm_ret hx hb hr hlk (nar_i _) rfl d_B_levels_4
def f_B_plain (t : Int32) : Int32 := (t - t / 40 * 40)
set_option maxRecDepth 100000 in
theorem k_B_plain : ck y_B_plain b_B_plain 1 (some .int) 1 (.static y_B_plain) := ⟨tk_of (List.mem_of_getElem? (i := 141) rfl) rfl, tk_of (List.mem_of_getElem? (i := 140) (by decide +kernel)) rfl, tk_of (List.mem_of_getElem? (i := 44) (by decide +kernel)) rfl, by decide +kernel⟩
set_option maxHeartbeats 4000000 in
set_option maxRecDepth 100000 in
theorem c_B_plain (l : Launch) (t : Int32) : pmI l y_B_plain b_B_plain 1 .int 0 0 [.int t] (fun r => r = f_B_plain t) := by
  refine pm_of (by decide) (Nat.le_of_ble_eq_true rfl) ?_
  intro p e s m below meth c ls hx hb hF hr hlk hN hl
  have hl : lv_has ls 1 [(0, .int t)] := hl
  refine lv_iload_n hx hb d_B_plain_0 rfl (lv_at hl 0 rfl) ?_
  refine lv_bipush (v := 40) hx hb d_B_plain_1 (by decide) ?_
  refine lv_irem hx hb d_B_plain_3 (by decide) ?_
  exact pm_ret hx hb hr hlk (nar_i _) rfl d_B_plain_4
def f_B_isArray (t : Int32) : Int32 := (if t < 40 then 0 else 1)
set_option maxRecDepth 100000 in
theorem z_B_isArray (t : Int32) : f_B_isArray t = 0 ∨ f_B_isArray t = 1 := by
  unfold f_B_isArray
  repeat' first | with_reducible refine z_ite ?_ ?_ | with_reducible exact Or.inl rfl | with_reducible exact Or.inr rfl
set_option maxRecDepth 100000 in
theorem k_B_isArray : ck y_B_isArray b_B_isArray 1 (some .boolean) 1 (.static y_B_isArray) := ⟨tk_of (List.mem_of_getElem? (i := 213) rfl) rfl, tk_of (List.mem_of_getElem? (i := 212) (by decide +kernel)) rfl, tk_of (List.mem_of_getElem? (i := 44) (by decide +kernel)) rfl, by decide +kernel⟩
set_option maxHeartbeats 4000000 in
set_option maxRecDepth 100000 in
theorem c_B_isArray (l : Launch) (t : Int32) : pmI l y_B_isArray b_B_isArray 1 .boolean 0 0 [.int t] (fun r => r = f_B_isArray t) := by
  refine pm_of (by decide) (Nat.le_of_ble_eq_true rfl) ?_
  intro p e s m below meth c ls hx hb hF hr hlk hN hl
  have hl : lv_has ls 1 [(0, .int t)] := hl
  refine lv_iload_n hx hb d_B_isArray_0 rfl (lv_at hl 0 rfl) ?_
  refine lv_bipush (v := 40) hx hb d_B_isArray_1 (by decide) ?_
  refine lv_icmp_lt (tgt := 10) hx hb d_B_isArray_3 (by decide) (fun c_1 => ?_) (fun c_1 => ?_)
  · skip
    refine lv_iconst (v := 0) hx hb d_B_isArray_10 (by decide) ?_
    exact pm_ret hx hb hr hlk (by decide) (by rw [f_B_isArray, if_pos c_1]) d_B_isArray_11
  · skip
    refine lv_iconst (v := 1) hx hb d_B_isArray_6 (by decide) ?_
    refine lv_goto (tgt := 11) hx hb d_B_isArray_7 (by decide) ?_
    exact pm_ret hx hb hr hlk (by decide) (by rw [f_B_isArray, if_neg c_1]) d_B_isArray_11
def f_B_isPrimitive (t : Int32) : Int32 := (if 8 < t then 0 else 1)
set_option maxRecDepth 100000 in
theorem z_B_isPrimitive (t : Int32) : f_B_isPrimitive t = 0 ∨ f_B_isPrimitive t = 1 := by
  unfold f_B_isPrimitive
  repeat' first | with_reducible refine z_ite ?_ ?_ | with_reducible exact Or.inl rfl | with_reducible exact Or.inr rfl
set_option maxRecDepth 100000 in
theorem k_B_isPrimitive : ck y_B_isPrimitive b_B_isPrimitive 1 (some .boolean) 1 (.static y_B_isPrimitive) := ⟨tk_of (List.mem_of_getElem? (i := 276) rfl) rfl, tk_of (List.mem_of_getElem? (i := 275) (by decide +kernel)) rfl, tk_of (List.mem_of_getElem? (i := 44) (by decide +kernel)) rfl, by decide +kernel⟩
set_option maxHeartbeats 4000000 in
set_option maxRecDepth 100000 in
theorem c_B_isPrimitive (l : Launch) (t : Int32) : pmI l y_B_isPrimitive b_B_isPrimitive 1 .boolean 0 0 [.int t] (fun r => r = f_B_isPrimitive t) := by
  refine pm_of (by decide) (Nat.le_of_ble_eq_true rfl) ?_
  intro p e s m below meth c ls hx hb hF hr hlk hN hl
  have hl : lv_has ls 1 [(0, .int t)] := hl
  refine lv_iload_n hx hb d_B_isPrimitive_0 rfl (lv_at hl 0 rfl) ?_
  refine lv_bipush (v := 8) hx hb d_B_isPrimitive_1 (by decide) ?_
  refine lv_icmp_gt (tgt := 10) hx hb d_B_isPrimitive_3 (by decide) (fun c_1 => ?_) (fun c_1 => ?_)
  · skip
    refine lv_iconst (v := 0) hx hb d_B_isPrimitive_10 (by decide) ?_
    exact pm_ret hx hb hr hlk (by decide) (by rw [f_B_isPrimitive, if_pos c_1]) d_B_isPrimitive_11
  · skip
    refine lv_iconst (v := 1) hx hb d_B_isPrimitive_6 (by decide) ?_
    refine lv_goto (tgt := 11) hx hb d_B_isPrimitive_7 (by decide) ?_
    exact pm_ret hx hb hr hlk (by decide) (by rw [f_B_isPrimitive, if_neg c_1]) d_B_isPrimitive_11
def f_B_isInterface (t : Int32) : Int32 := (if t = 10 then 1 else (if t = 12 then 1 else (if t = 13 then 1 else (if t = 20 then 1 else 0))))
set_option maxRecDepth 100000 in
theorem z_B_isInterface (t : Int32) : f_B_isInterface t = 0 ∨ f_B_isInterface t = 1 := by
  unfold f_B_isInterface
  repeat' first | with_reducible refine z_ite ?_ ?_ | with_reducible exact Or.inl rfl | with_reducible exact Or.inr rfl
set_option maxRecDepth 100000 in
theorem k_B_isInterface : ck y_B_isInterface b_B_isInterface 1 (some .boolean) 1 (.static y_B_isInterface) := ⟨tk_of (List.mem_of_getElem? (i := 400) rfl) rfl, tk_of (List.mem_of_getElem? (i := 399) (by decide +kernel)) rfl, tk_of (List.mem_of_getElem? (i := 44) (by decide +kernel)) rfl, by decide +kernel⟩
set_option maxHeartbeats 4000000 in
set_option maxRecDepth 100000 in
theorem c_B_isInterface (l : Launch) (t : Int32) : pmI l y_B_isInterface b_B_isInterface 1 .boolean 0 0 [.int t] (fun r => r = f_B_isInterface t) := by
  refine pm_of (by decide) (Nat.le_of_ble_eq_true rfl) ?_
  intro p e s m below meth c ls hx hb hF hr hlk hN hl
  have hl : lv_has ls 1 [(0, .int t)] := hl
  refine lv_iload_n hx hb d_B_isInterface_0 rfl (lv_at hl 0 rfl) ?_
  refine lv_bipush (v := 10) hx hb d_B_isInterface_1 (by decide) ?_
  refine lv_icmp_eq (tgt := 24) hx hb d_B_isInterface_3 (by decide) (fun c_1 => ?_) (fun c_1 => ?_)
  · skip
    refine lv_iconst (v := 1) hx hb d_B_isInterface_24 (by decide) ?_
    refine lv_goto (tgt := 29) hx hb d_B_isInterface_25 (by decide) ?_
    exact pm_ret hx hb hr hlk (by decide) (by rw [f_B_isInterface, if_pos c_1]) d_B_isInterface_29
  · skip
    refine lv_iload_n hx hb d_B_isInterface_6 rfl (lv_at hl 0 rfl) ?_
    refine lv_bipush (v := 12) hx hb d_B_isInterface_7 (by decide) ?_
    refine lv_icmp_eq (tgt := 24) hx hb d_B_isInterface_9 (by decide) (fun c_2 => ?_) (fun c_2 => ?_)
    · skip
      refine lv_iconst (v := 1) hx hb d_B_isInterface_24 (by decide) ?_
      refine lv_goto (tgt := 29) hx hb d_B_isInterface_25 (by decide) ?_
      exact pm_ret hx hb hr hlk (by decide) (by rw [f_B_isInterface, if_neg c_1, if_pos c_2]) d_B_isInterface_29
    · skip
      refine lv_iload_n hx hb d_B_isInterface_12 rfl (lv_at hl 0 rfl) ?_
      refine lv_bipush (v := 13) hx hb d_B_isInterface_13 (by decide) ?_
      refine lv_icmp_eq (tgt := 24) hx hb d_B_isInterface_15 (by decide) (fun c_3 => ?_) (fun c_3 => ?_)
      · skip
        refine lv_iconst (v := 1) hx hb d_B_isInterface_24 (by decide) ?_
        refine lv_goto (tgt := 29) hx hb d_B_isInterface_25 (by decide) ?_
        exact pm_ret hx hb hr hlk (by decide) (by rw [f_B_isInterface, if_neg c_1, if_neg c_2, if_pos c_3]) d_B_isInterface_29
      · skip
        refine lv_iload_n hx hb d_B_isInterface_18 rfl (lv_at hl 0 rfl) ?_
        refine lv_bipush (v := 20) hx hb d_B_isInterface_19 (by decide) ?_
        refine lv_icmp_ne (tgt := 28) hx hb d_B_isInterface_21 (by decide) (fun c_4 => ?_) (fun c_4 => ?_)
        · skip
          refine lv_iconst (v := 0) hx hb d_B_isInterface_28 (by decide) ?_
          exact pm_ret hx hb hr hlk (by decide) (by rw [f_B_isInterface, if_neg c_1, if_neg c_2, if_neg c_3, if_neg c_4]) d_B_isInterface_29
        · skip
          refine lv_iconst (v := 1) hx hb d_B_isInterface_24 (by decide) ?_
          refine lv_goto (tgt := 29) hx hb d_B_isInterface_25 (by decide) ?_
          exact pm_ret hx hb hr hlk (by decide) (by rw [f_B_isInterface, if_neg c_1, if_neg c_2, if_neg c_3, if_pos c_4]) d_B_isInterface_29
def f_B_isNameless (t : Int32) : Int32 := (if t = 17 then 1 else (if t = 24 then 1 else 0))
set_option maxRecDepth 100000 in
theorem z_B_isNameless (t : Int32) : f_B_isNameless t = 0 ∨ f_B_isNameless t = 1 := by
  unfold f_B_isNameless
  repeat' first | with_reducible refine z_ite ?_ ?_ | with_reducible exact Or.inl rfl | with_reducible exact Or.inr rfl
set_option maxRecDepth 100000 in
theorem k_B_isNameless : ck y_B_isNameless b_B_isNameless 1 (some .boolean) 1 (.static y_B_isNameless) := ⟨tk_of (List.mem_of_getElem? (i := 388) rfl) rfl, tk_of (List.mem_of_getElem? (i := 387) (by decide +kernel)) rfl, tk_of (List.mem_of_getElem? (i := 44) (by decide +kernel)) rfl, by decide +kernel⟩
set_option maxHeartbeats 4000000 in
set_option maxRecDepth 100000 in
theorem c_B_isNameless (l : Launch) (t : Int32) : pmI l y_B_isNameless b_B_isNameless 1 .boolean 0 0 [.int t] (fun r => r = f_B_isNameless t) := by
  refine pm_of (by decide) (Nat.le_of_ble_eq_true rfl) ?_
  intro p e s m below meth c ls hx hb hF hr hlk hN hl
  have hl : lv_has ls 1 [(0, .int t)] := hl
  refine lv_iload_n hx hb d_B_isNameless_0 rfl (lv_at hl 0 rfl) ?_
  refine lv_bipush (v := 17) hx hb d_B_isNameless_1 (by decide) ?_
  refine lv_icmp_eq (tgt := 12) hx hb d_B_isNameless_3 (by decide) (fun c_1 => ?_) (fun c_1 => ?_)
  · skip
    refine lv_iconst (v := 1) hx hb d_B_isNameless_12 (by decide) ?_
    refine lv_goto (tgt := 17) hx hb d_B_isNameless_13 (by decide) ?_
    exact pm_ret hx hb hr hlk (by decide) (by rw [f_B_isNameless, if_pos c_1]) d_B_isNameless_17
  · skip
    refine lv_iload_n hx hb d_B_isNameless_6 rfl (lv_at hl 0 rfl) ?_
    refine lv_bipush (v := 24) hx hb d_B_isNameless_7 (by decide) ?_
    refine lv_icmp_ne (tgt := 16) hx hb d_B_isNameless_9 (by decide) (fun c_2 => ?_) (fun c_2 => ?_)
    · skip
      refine lv_iconst (v := 0) hx hb d_B_isNameless_16 (by decide) ?_
      exact pm_ret hx hb hr hlk (by decide) (by rw [f_B_isNameless, if_neg c_1, if_neg c_2]) d_B_isNameless_17
    · skip
      refine lv_iconst (v := 1) hx hb d_B_isNameless_12 (by decide) ?_
      refine lv_goto (tgt := 17) hx hb d_B_isNameless_13 (by decide) ?_
      exact pm_ret hx hb hr hlk (by decide) (by rw [f_B_isNameless, if_neg c_1, if_pos c_2]) d_B_isNameless_17
def f_B_isInMethod (t : Int32) : Int32 := (if t = 23 then 1 else (if t = 24 then 1 else 0))
set_option maxRecDepth 100000 in
theorem z_B_isInMethod (t : Int32) : f_B_isInMethod t = 0 ∨ f_B_isInMethod t = 1 := by
  unfold f_B_isInMethod
  repeat' first | with_reducible refine z_ite ?_ ?_ | with_reducible exact Or.inl rfl | with_reducible exact Or.inr rfl
set_option maxRecDepth 100000 in
theorem k_B_isInMethod : ck y_B_isInMethod b_B_isInMethod 1 (some .boolean) 1 (.static y_B_isInMethod) := ⟨tk_of (List.mem_of_getElem? (i := 391) rfl) rfl, tk_of (List.mem_of_getElem? (i := 390) (by decide +kernel)) rfl, tk_of (List.mem_of_getElem? (i := 44) (by decide +kernel)) rfl, by decide +kernel⟩
set_option maxHeartbeats 4000000 in
set_option maxRecDepth 100000 in
theorem c_B_isInMethod (l : Launch) (t : Int32) : pmI l y_B_isInMethod b_B_isInMethod 1 .boolean 0 0 [.int t] (fun r => r = f_B_isInMethod t) := by
  refine pm_of (by decide) (Nat.le_of_ble_eq_true rfl) ?_
  intro p e s m below meth c ls hx hb hF hr hlk hN hl
  have hl : lv_has ls 1 [(0, .int t)] := hl
  refine lv_iload_n hx hb d_B_isInMethod_0 rfl (lv_at hl 0 rfl) ?_
  refine lv_bipush (v := 23) hx hb d_B_isInMethod_1 (by decide) ?_
  refine lv_icmp_eq (tgt := 12) hx hb d_B_isInMethod_3 (by decide) (fun c_1 => ?_) (fun c_1 => ?_)
  · skip
    refine lv_iconst (v := 1) hx hb d_B_isInMethod_12 (by decide) ?_
    refine lv_goto (tgt := 17) hx hb d_B_isInMethod_13 (by decide) ?_
    exact pm_ret hx hb hr hlk (by decide) (by rw [f_B_isInMethod, if_pos c_1]) d_B_isInMethod_17
  · skip
    refine lv_iload_n hx hb d_B_isInMethod_6 rfl (lv_at hl 0 rfl) ?_
    refine lv_bipush (v := 24) hx hb d_B_isInMethod_7 (by decide) ?_
    refine lv_icmp_ne (tgt := 16) hx hb d_B_isInMethod_9 (by decide) (fun c_2 => ?_) (fun c_2 => ?_)
    · skip
      refine lv_iconst (v := 0) hx hb d_B_isInMethod_16 (by decide) ?_
      exact pm_ret hx hb hr hlk (by decide) (by rw [f_B_isInMethod, if_neg c_1, if_neg c_2]) d_B_isInMethod_17
    · skip
      refine lv_iconst (v := 1) hx hb d_B_isInMethod_12 (by decide) ?_
      refine lv_goto (tgt := 17) hx hb d_B_isInMethod_13 (by decide) ?_
      exact pm_ret hx hb hr hlk (by decide) (by rw [f_B_isInMethod, if_neg c_1, if_pos c_2]) d_B_isInMethod_17
def f_B_isMember (t : Int32) : Int32 := (if t < 12 then 0 else (if 22 < t then 0 else (if t = 17 then 0 else 1)))
set_option maxRecDepth 100000 in
theorem z_B_isMember (t : Int32) : f_B_isMember t = 0 ∨ f_B_isMember t = 1 := by
  unfold f_B_isMember
  repeat' first | with_reducible refine z_ite ?_ ?_ | with_reducible exact Or.inl rfl | with_reducible exact Or.inr rfl
set_option maxRecDepth 100000 in
theorem k_B_isMember : ck y_B_isMember b_B_isMember 1 (some .boolean) 1 (.static y_B_isMember) := ⟨tk_of (List.mem_of_getElem? (i := 464) rfl) rfl, tk_of (List.mem_of_getElem? (i := 463) (by decide +kernel)) rfl, tk_of (List.mem_of_getElem? (i := 44) (by decide +kernel)) rfl, by decide +kernel⟩
set_option maxHeartbeats 4000000 in
set_option maxRecDepth 100000 in
theorem c_B_isMember (l : Launch) (t : Int32) : pmI l y_B_isMember b_B_isMember 1 .boolean 0 0 [.int t] (fun r => r = f_B_isMember t) := by
  refine pm_of (by decide) (Nat.le_of_ble_eq_true rfl) ?_
  intro p e s m below meth c ls hx hb hF hr hlk hN hl
  have hl : lv_has ls 1 [(0, .int t)] := hl
  refine lv_iload_n hx hb d_B_isMember_0 rfl (lv_at hl 0 rfl) ?_
  refine lv_bipush (v := 12) hx hb d_B_isMember_1 (by decide) ?_
  refine lv_icmp_lt (tgt := 22) hx hb d_B_isMember_3 (by decide) (fun c_1 => ?_) (fun c_1 => ?_)
  · skip
    refine lv_iconst (v := 0) hx hb d_B_isMember_22 (by decide) ?_
    exact pm_ret hx hb hr hlk (by decide) (by rw [f_B_isMember, if_pos c_1]) d_B_isMember_23
  · skip
    refine lv_iload_n hx hb d_B_isMember_6 rfl (lv_at hl 0 rfl) ?_
    refine lv_bipush (v := 22) hx hb d_B_isMember_7 (by decide) ?_
    refine lv_icmp_gt (tgt := 22) hx hb d_B_isMember_9 (by decide) (fun c_2 => ?_) (fun c_2 => ?_)
    · skip
      refine lv_iconst (v := 0) hx hb d_B_isMember_22 (by decide) ?_
      exact pm_ret hx hb hr hlk (by decide) (by rw [f_B_isMember, if_neg c_1, if_pos c_2]) d_B_isMember_23
    · skip
      refine lv_iload_n hx hb d_B_isMember_12 rfl (lv_at hl 0 rfl) ?_
      refine lv_bipush (v := 17) hx hb d_B_isMember_13 (by decide) ?_
      refine lv_icmp_eq (tgt := 22) hx hb d_B_isMember_15 (by decide) (fun c_3 => ?_) (fun c_3 => ?_)
      · skip
        refine lv_iconst (v := 0) hx hb d_B_isMember_22 (by decide) ?_
        exact pm_ret hx hb hr hlk (by decide) (by rw [f_B_isMember, if_neg c_1, if_neg c_2, if_pos c_3]) d_B_isMember_23
      · skip
        refine lv_iconst (v := 1) hx hb d_B_isMember_18 (by decide) ?_
        refine lv_goto (tgt := 23) hx hb d_B_isMember_19 (by decide) ?_
        exact pm_ret hx hb hr hlk (by decide) (by rw [f_B_isMember, if_neg c_1, if_neg c_2, if_neg c_3]) d_B_isMember_23
def f_B_isInNest (t : Int32) : Int32 := (if t < 11 then 0 else (if 25 ≤ t then 0 else 1))
set_option maxRecDepth 100000 in
theorem z_B_isInNest (t : Int32) : f_B_isInNest t = 0 ∨ f_B_isInNest t = 1 := by
  unfold f_B_isInNest
  repeat' first | with_reducible refine z_ite ?_ ?_ | with_reducible exact Or.inl rfl | with_reducible exact Or.inr rfl
set_option maxRecDepth 100000 in
theorem k_B_isInNest : ck y_B_isInNest b_B_isInNest 1 (some .boolean) 1 (.static y_B_isInNest) := ⟨tk_of (List.mem_of_getElem? (i := 485) rfl) rfl, tk_of (List.mem_of_getElem? (i := 484) (by decide +kernel)) rfl, tk_of (List.mem_of_getElem? (i := 44) (by decide +kernel)) rfl, by decide +kernel⟩
set_option maxHeartbeats 4000000 in
set_option maxRecDepth 100000 in
theorem c_B_isInNest (l : Launch) (t : Int32) : pmI l y_B_isInNest b_B_isInNest 1 .boolean 0 0 [.int t] (fun r => r = f_B_isInNest t) := by
  refine pm_of (by decide) (Nat.le_of_ble_eq_true rfl) ?_
  intro p e s m below meth c ls hx hb hF hr hlk hN hl
  have hl : lv_has ls 1 [(0, .int t)] := hl
  refine lv_iload_n hx hb d_B_isInNest_0 rfl (lv_at hl 0 rfl) ?_
  refine lv_bipush (v := 11) hx hb d_B_isInNest_1 (by decide) ?_
  refine lv_icmp_lt (tgt := 16) hx hb d_B_isInNest_3 (by decide) (fun c_1 => ?_) (fun c_1 => ?_)
  · skip
    refine lv_iconst (v := 0) hx hb d_B_isInNest_16 (by decide) ?_
    exact pm_ret hx hb hr hlk (by decide) (by rw [f_B_isInNest, if_pos c_1]) d_B_isInNest_17
  · skip
    refine lv_iload_n hx hb d_B_isInNest_6 rfl (lv_at hl 0 rfl) ?_
    refine lv_bipush (v := 25) hx hb d_B_isInNest_7 (by decide) ?_
    refine lv_icmp_ge (tgt := 16) hx hb d_B_isInNest_9 (by decide) (fun c_2 => ?_) (fun c_2 => ?_)
    · skip
      refine lv_iconst (v := 0) hx hb d_B_isInNest_16 (by decide) ?_
      exact pm_ret hx hb hr hlk (by decide) (by rw [f_B_isInNest, if_neg c_1, if_pos c_2]) d_B_isInNest_17
    · skip
      refine lv_iconst (v := 1) hx hb d_B_isInNest_12 (by decide) ?_
      refine lv_goto (tgt := 17) hx hb d_B_isInNest_13 (by decide) ?_
      exact pm_ret hx hb hr hlk (by decide) (by rw [f_B_isInNest, if_neg c_1, if_neg c_2]) d_B_isInNest_17
def f_B_isType (t : Int32) : Int32 := (if t < 0 then 0 else (if 2 < (f_B_levels t) then 0 else (if (f_B_plain t) < 25 then (if t = 8 then 1 else (if (f_B_plain t) = 8 then 0 else 1)) else 0)))
set_option maxRecDepth 100000 in
theorem z_B_isType (t : Int32) : f_B_isType t = 0 ∨ f_B_isType t = 1 := by
  unfold f_B_isType
  repeat' first | with_reducible refine z_ite ?_ ?_ | with_reducible exact Or.inl rfl | with_reducible exact Or.inr rfl
set_option maxRecDepth 100000 in
theorem k_B_isType : ck y_B_isType b_B_isType 1 (some .boolean) 1 (.static y_B_isType) := ⟨tk_of (List.mem_of_getElem? (i := 135) rfl) rfl, tk_of (List.mem_of_getElem? (i := 134) (by decide +kernel)) rfl, tk_of (List.mem_of_getElem? (i := 44) (by decide +kernel)) rfl, by decide +kernel⟩
theorem j_B_9 : Cond.methodLink R_B 9 y_B_levels ∈ tk := tk_of (List.mem_of_getElem? (i := 136) (by decide +kernel)) rfl
theorem j_B_15 : Cond.methodLink R_B 15 y_B_plain ∈ tk := tk_of (List.mem_of_getElem? (i := 139) (by decide +kernel)) rfl
set_option maxHeartbeats 4000000 in
set_option maxRecDepth 100000 in
theorem c_B_isType (l : Launch) (t : Int32) : pmI l y_B_isType b_B_isType 1 .boolean 1 20 [.int t] (fun r => r = f_B_isType t) := by
  refine pm_of (by decide) (Nat.le_of_ble_eq_true rfl) ?_
  intro p e s m below meth c ls hx hb hF hr hlk hN hl
  have hl : lv_has ls 1 [(0, .int t)] := hl
  refine lv_iload_n hx hb d_B_isType_0 rfl (lv_at hl 0 rfl) ?_
  refine lv_if_lt (tgt := 21) hx hb d_B_isType_1 (by decide) (fun c_1 => ?_) (fun c_1 => ?_)
  · skip
    refine lv_iconst (v := 0) hx hb d_B_isType_21 (by decide) ?_
    exact pm_ret hx hb hr hlk (by decide) (by rw [f_B_isType, if_pos c_1]) d_B_isType_22
  · skip
    refine lv_iload_n hx hb d_B_isType_4 rfl (lv_at hl 0 rfl) ?_
    refine pm_callE hF hN (c_B_levels l t) k_B_levels j_B_9 ⟨Nat.le_of_ble_eq_true rfl, Nat.le_of_ble_eq_true rfl⟩ rfl hl.1 (Nat.le_of_ble_eq_true rfl) d_B_isType_5 ⟨Nat.le_refl _, Nat.le_refl _⟩ ?_
    refine lv_iconst (v := 2) hx hb d_B_isType_8 (by decide) ?_
    refine lv_icmp_gt (tgt := 21) hx hb d_B_isType_9 (by decide) (fun c_3 => ?_) (fun c_3 => ?_)
    · skip
      refine lv_iconst (v := 0) hx hb d_B_isType_21 (by decide) ?_
      exact pm_ret hx hb hr hlk (by decide) (by rw [f_B_isType, if_neg c_1, if_pos c_3]) d_B_isType_22
    · skip
      refine lv_iload_n hx hb d_B_isType_12 rfl (lv_at hl 0 rfl) ?_
      refine pm_callE hF hN (c_B_plain l t) k_B_plain j_B_15 ⟨Nat.le_of_ble_eq_true rfl, Nat.le_of_ble_eq_true rfl⟩ rfl hl.1 (Nat.le_of_ble_eq_true rfl) d_B_isType_13 ⟨Nat.le_refl _, Nat.le_refl _⟩ ?_
      refine lv_bipush (v := 25) hx hb d_B_isType_16 (by decide) ?_
      refine lv_icmp_lt (tgt := 23) hx hb d_B_isType_18 (by decide) (fun c_5 => ?_) (fun c_5 => ?_)
      · skip
        refine lv_iload_n hx hb d_B_isType_23 rfl (lv_at hl 0 rfl) ?_
        refine lv_bipush (v := 8) hx hb d_B_isType_24 (by decide) ?_
        refine lv_icmp_eq (tgt := 38) hx hb d_B_isType_26 (by decide) (fun c_6 => ?_) (fun c_6 => ?_)
        · skip
          refine lv_iconst (v := 1) hx hb d_B_isType_38 (by decide) ?_
          refine lv_goto (tgt := 43) hx hb d_B_isType_39 (by decide) ?_
          exact pm_ret hx hb hr hlk (by decide) (by rw [f_B_isType, if_neg c_1, if_neg c_3, if_pos c_5, if_pos c_6]) d_B_isType_43
        · skip
          refine lv_iload_n hx hb d_B_isType_29 rfl (lv_at hl 0 rfl) ?_
          refine pm_callE hF hN (c_B_plain l t) k_B_plain j_B_15 ⟨Nat.le_of_ble_eq_true rfl, Nat.le_of_ble_eq_true rfl⟩ rfl hl.1 (Nat.le_of_ble_eq_true rfl) d_B_isType_30 ⟨Nat.le_refl _, Nat.le_refl _⟩ ?_
          refine lv_bipush (v := 8) hx hb d_B_isType_33 (by decide) ?_
          refine lv_icmp_eq (tgt := 42) hx hb d_B_isType_35 (by decide) (fun c_8 => ?_) (fun c_8 => ?_)
          · skip
            refine lv_iconst (v := 0) hx hb d_B_isType_42 (by decide) ?_
            exact pm_ret hx hb hr hlk (by decide) (by rw [f_B_isType, if_neg c_1, if_neg c_3, if_pos c_5, if_neg c_6, if_pos c_8]) d_B_isType_43
          · skip
            refine lv_iconst (v := 1) hx hb d_B_isType_38 (by decide) ?_
            refine lv_goto (tgt := 43) hx hb d_B_isType_39 (by decide) ?_
            exact pm_ret hx hb hr hlk (by decide) (by rw [f_B_isType, if_neg c_1, if_neg c_3, if_pos c_5, if_neg c_6, if_neg c_8]) d_B_isType_43
      · skip
        refine lv_iconst (v := 0) hx hb d_B_isType_21 (by decide) ?_
        exact pm_ret hx hb hr hlk (by decide) (by rw [f_B_isType, if_neg c_1, if_neg c_3, if_neg c_5]) d_B_isType_22
def f_B_plainModifiers (t : Int32) : Int32 := (if t = 9 then 1 else (if t = 10 then 1537 else (if t = 11 then 17 else (if t = 12 then 1544 else (if t = 13 then 1544 else (if t = 14 then 24 else (if t = 15 then 24 else (if t = 16 then 16392 else (if t = 17 then 16400 else (if t = 18 then 2 else (if t = 19 then 4 else (if t = 20 then 9736 else (if t = 21 then 1032 else (if t = 22 then 8 else (if t = 23 then 0 else (if t = 24 then 0 else 1041))))))))))))))))
set_option maxRecDepth 100000 in
theorem k_B_plainModifiers : ck y_B_plainModifiers b_B_plainModifiers 1 (some .int) 1 (.static y_B_plainModifiers) := ⟨tk_of (List.mem_of_getElem? (i := 408) rfl) rfl, tk_of (List.mem_of_getElem? (i := 407) (by decide +kernel)) rfl, tk_of (List.mem_of_getElem? (i := 44) (by decide +kernel)) rfl, by decide +kernel⟩
set_option maxHeartbeats 4000000 in
set_option maxRecDepth 100000 in
theorem c_B_plainModifiers (l : Launch) (t : Int32) : pmI l y_B_plainModifiers b_B_plainModifiers 1 .int 0 0 [.int t] (fun r => r = f_B_plainModifiers t) := by
  refine pm_of (by decide) (Nat.le_of_ble_eq_true rfl) ?_
  intro p e s m below meth c ls hx hb hF hr hlk hN hl
  have hl : lv_has ls 1 [(0, .int t)] := hl
  refine lv_iload_n hx hb d_B_plainModifiers_0 rfl (lv_at hl 0 rfl) ?_
  by_cases c_1 : t = 9
  · refine lv_tableIn (tgt := 80) (off := 79) hx hb d_B_plainModifiers_1 (by rw [c_1]; decide) (by rw [c_1]; decide) (by rw [c_1]; decide) (by decide) ?_
    refine lv_iconst (v := 1) hx hb d_B_plainModifiers_80 (by decide) ?_
    exact pm_ret hx hb hr hlk (nar_i _) (by rw [f_B_plainModifiers, if_pos c_1]) d_B_plainModifiers_81
  by_cases c_2 : t = 10
  · refine lv_tableIn (tgt := 82) (off := 81) hx hb d_B_plainModifiers_1 (by rw [c_2]; decide) (by rw [c_2]; decide) (by rw [c_2]; decide) (by decide) ?_
    refine lv_sipush (v := 1537) hx hb d_B_plainModifiers_82 (by decide) ?_
    exact pm_ret hx hb hr hlk (nar_i _) (by rw [f_B_plainModifiers, if_neg c_1, if_pos c_2]) d_B_plainModifiers_85
  by_cases c_3 : t = 11
  · refine lv_tableIn (tgt := 86) (off := 85) hx hb d_B_plainModifiers_1 (by rw [c_3]; decide) (by rw [c_3]; decide) (by rw [c_3]; decide) (by decide) ?_
    refine lv_bipush (v := 17) hx hb d_B_plainModifiers_86 (by decide) ?_
    exact pm_ret hx hb hr hlk (nar_i _) (by rw [f_B_plainModifiers, if_neg c_1, if_neg c_2, if_pos c_3]) d_B_plainModifiers_88
  by_cases c_4 : t = 12
  · refine lv_tableIn (tgt := 89) (off := 88) hx hb d_B_plainModifiers_1 (by rw [c_4]; decide) (by rw [c_4]; decide) (by rw [c_4]; decide) (by decide) ?_
    refine lv_sipush (v := 1544) hx hb d_B_plainModifiers_89 (by decide) ?_
    exact pm_ret hx hb hr hlk (nar_i _) (by rw [f_B_plainModifiers, if_neg c_1, if_neg c_2, if_neg c_3, if_pos c_4]) d_B_plainModifiers_92
  by_cases c_5 : t = 13
  · refine lv_tableIn (tgt := 89) (off := 88) hx hb d_B_plainModifiers_1 (by rw [c_5]; decide) (by rw [c_5]; decide) (by rw [c_5]; decide) (by decide) ?_
    refine lv_sipush (v := 1544) hx hb d_B_plainModifiers_89 (by decide) ?_
    exact pm_ret hx hb hr hlk (nar_i _) (by rw [f_B_plainModifiers, if_neg c_1, if_neg c_2, if_neg c_3, if_neg c_4, if_pos c_5]) d_B_plainModifiers_92
  by_cases c_6 : t = 14
  · refine lv_tableIn (tgt := 93) (off := 92) hx hb d_B_plainModifiers_1 (by rw [c_6]; decide) (by rw [c_6]; decide) (by rw [c_6]; decide) (by decide) ?_
    refine lv_bipush (v := 24) hx hb d_B_plainModifiers_93 (by decide) ?_
    exact pm_ret hx hb hr hlk (nar_i _) (by rw [f_B_plainModifiers, if_neg c_1, if_neg c_2, if_neg c_3, if_neg c_4, if_neg c_5, if_pos c_6]) d_B_plainModifiers_95
  by_cases c_7 : t = 15
  · refine lv_tableIn (tgt := 93) (off := 92) hx hb d_B_plainModifiers_1 (by rw [c_7]; decide) (by rw [c_7]; decide) (by rw [c_7]; decide) (by decide) ?_
    refine lv_bipush (v := 24) hx hb d_B_plainModifiers_93 (by decide) ?_
    exact pm_ret hx hb hr hlk (nar_i _) (by rw [f_B_plainModifiers, if_neg c_1, if_neg c_2, if_neg c_3, if_neg c_4, if_neg c_5, if_neg c_6, if_pos c_7]) d_B_plainModifiers_95
  by_cases c_8 : t = 16
  · refine lv_tableIn (tgt := 96) (off := 95) hx hb d_B_plainModifiers_1 (by rw [c_8]; decide) (by rw [c_8]; decide) (by rw [c_8]; decide) (by decide) ?_
    refine lv_sipush (v := 16392) hx hb d_B_plainModifiers_96 (by decide) ?_
    exact pm_ret hx hb hr hlk (nar_i _) (by rw [f_B_plainModifiers, if_neg c_1, if_neg c_2, if_neg c_3, if_neg c_4, if_neg c_5, if_neg c_6, if_neg c_7, if_pos c_8]) d_B_plainModifiers_99
  by_cases c_9 : t = 17
  · refine lv_tableIn (tgt := 100) (off := 99) hx hb d_B_plainModifiers_1 (by rw [c_9]; decide) (by rw [c_9]; decide) (by rw [c_9]; decide) (by decide) ?_
    refine lv_sipush (v := 16400) hx hb d_B_plainModifiers_100 (by decide) ?_
    exact pm_ret hx hb hr hlk (nar_i _) (by rw [f_B_plainModifiers, if_neg c_1, if_neg c_2, if_neg c_3, if_neg c_4, if_neg c_5, if_neg c_6, if_neg c_7, if_neg c_8, if_pos c_9]) d_B_plainModifiers_103
  by_cases c_10 : t = 18
  · refine lv_tableIn (tgt := 104) (off := 103) hx hb d_B_plainModifiers_1 (by rw [c_10]; decide) (by rw [c_10]; decide) (by rw [c_10]; decide) (by decide) ?_
    refine lv_iconst (v := 2) hx hb d_B_plainModifiers_104 (by decide) ?_
    exact pm_ret hx hb hr hlk (nar_i _) (by rw [f_B_plainModifiers, if_neg c_1, if_neg c_2, if_neg c_3, if_neg c_4, if_neg c_5, if_neg c_6, if_neg c_7, if_neg c_8, if_neg c_9, if_pos c_10]) d_B_plainModifiers_105
  by_cases c_11 : t = 19
  · refine lv_tableIn (tgt := 106) (off := 105) hx hb d_B_plainModifiers_1 (by rw [c_11]; decide) (by rw [c_11]; decide) (by rw [c_11]; decide) (by decide) ?_
    refine lv_iconst (v := 4) hx hb d_B_plainModifiers_106 (by decide) ?_
    exact pm_ret hx hb hr hlk (nar_i _) (by rw [f_B_plainModifiers, if_neg c_1, if_neg c_2, if_neg c_3, if_neg c_4, if_neg c_5, if_neg c_6, if_neg c_7, if_neg c_8, if_neg c_9, if_neg c_10, if_pos c_11]) d_B_plainModifiers_107
  by_cases c_12 : t = 20
  · refine lv_tableIn (tgt := 108) (off := 107) hx hb d_B_plainModifiers_1 (by rw [c_12]; decide) (by rw [c_12]; decide) (by rw [c_12]; decide) (by decide) ?_
    refine lv_sipush (v := 9736) hx hb d_B_plainModifiers_108 (by decide) ?_
    exact pm_ret hx hb hr hlk (nar_i _) (by rw [f_B_plainModifiers, if_neg c_1, if_neg c_2, if_neg c_3, if_neg c_4, if_neg c_5, if_neg c_6, if_neg c_7, if_neg c_8, if_neg c_9, if_neg c_10, if_neg c_11, if_pos c_12]) d_B_plainModifiers_111
  by_cases c_13 : t = 21
  · refine lv_tableIn (tgt := 112) (off := 111) hx hb d_B_plainModifiers_1 (by rw [c_13]; decide) (by rw [c_13]; decide) (by rw [c_13]; decide) (by decide) ?_
    refine lv_sipush (v := 1032) hx hb d_B_plainModifiers_112 (by decide) ?_
    exact pm_ret hx hb hr hlk (nar_i _) (by rw [f_B_plainModifiers, if_neg c_1, if_neg c_2, if_neg c_3, if_neg c_4, if_neg c_5, if_neg c_6, if_neg c_7, if_neg c_8, if_neg c_9, if_neg c_10, if_neg c_11, if_neg c_12, if_pos c_13]) d_B_plainModifiers_115
  by_cases c_14 : t = 22
  · refine lv_tableIn (tgt := 116) (off := 115) hx hb d_B_plainModifiers_1 (by rw [c_14]; decide) (by rw [c_14]; decide) (by rw [c_14]; decide) (by decide) ?_
    refine lv_bipush (v := 8) hx hb d_B_plainModifiers_116 (by decide) ?_
    exact pm_ret hx hb hr hlk (nar_i _) (by rw [f_B_plainModifiers, if_neg c_1, if_neg c_2, if_neg c_3, if_neg c_4, if_neg c_5, if_neg c_6, if_neg c_7, if_neg c_8, if_neg c_9, if_neg c_10, if_neg c_11, if_neg c_12, if_neg c_13, if_pos c_14]) d_B_plainModifiers_118
  by_cases c_15 : t = 23
  · refine lv_tableIn (tgt := 119) (off := 118) hx hb d_B_plainModifiers_1 (by rw [c_15]; decide) (by rw [c_15]; decide) (by rw [c_15]; decide) (by decide) ?_
    refine lv_iconst (v := 0) hx hb d_B_plainModifiers_119 (by decide) ?_
    exact pm_ret hx hb hr hlk (nar_i _) (by rw [f_B_plainModifiers, if_neg c_1, if_neg c_2, if_neg c_3, if_neg c_4, if_neg c_5, if_neg c_6, if_neg c_7, if_neg c_8, if_neg c_9, if_neg c_10, if_neg c_11, if_neg c_12, if_neg c_13, if_neg c_14, if_pos c_15]) d_B_plainModifiers_120
  by_cases c_16 : t = 24
  · refine lv_tableIn (tgt := 119) (off := 118) hx hb d_B_plainModifiers_1 (by rw [c_16]; decide) (by rw [c_16]; decide) (by rw [c_16]; decide) (by decide) ?_
    refine lv_iconst (v := 0) hx hb d_B_plainModifiers_119 (by decide) ?_
    exact pm_ret hx hb hr hlk (nar_i _) (by rw [f_B_plainModifiers, if_neg c_1, if_neg c_2, if_neg c_3, if_neg c_4, if_neg c_5, if_neg c_6, if_neg c_7, if_neg c_8, if_neg c_9, if_neg c_10, if_neg c_11, if_neg c_12, if_neg c_13, if_neg c_14, if_neg c_15, if_pos c_16]) d_B_plainModifiers_120
  refine lv_tableOut (tgt := 121) hx hb d_B_plainModifiers_1 (by have := lv_neT (a := 9) c_1 (by decide); have := lv_neT (a := 10) c_2 (by decide); have := lv_neT (a := 11) c_3 (by decide); have := lv_neT (a := 12) c_4 (by decide); have := lv_neT (a := 13) c_5 (by decide); have := lv_neT (a := 14) c_6 (by decide); have := lv_neT (a := 15) c_7 (by decide); have := lv_neT (a := 16) c_8 (by decide); have := lv_neT (a := 17) c_9 (by decide); have := lv_neT (a := 18) c_10 (by decide); have := lv_neT (a := 19) c_11 (by decide); have := lv_neT (a := 20) c_12 (by decide); have := lv_neT (a := 21) c_13 (by decide); have := lv_neT (a := 22) c_14 (by decide); have := lv_neT (a := 23) c_15 (by decide); have := lv_neT (a := 24) c_16 (by decide); omega) (by decide) ?_
  refine lv_sipush (v := 1041) hx hb d_B_plainModifiers_121 (by decide) ?_
  exact pm_ret hx hb hr hlk (nar_i _) (by rw [f_B_plainModifiers, if_neg c_1, if_neg c_2, if_neg c_3, if_neg c_4, if_neg c_5, if_neg c_6, if_neg c_7, if_neg c_8, if_neg c_9, if_neg c_10, if_neg c_11, if_neg c_12, if_neg c_13, if_neg c_14, if_neg c_15, if_neg c_16]) d_B_plainModifiers_124
def f_B_modifiers (t : Int32) : Int32 := (if (f_B_isArray t) = 0 then (f_B_plainModifiers (f_B_plain t)) else (1040 + ((f_B_plainModifiers (f_B_plain t)) &&& 7)))
set_option maxRecDepth 100000 in
theorem k_B_modifiers : ck y_B_modifiers b_B_modifiers 2 (some .int) 1 (.static y_B_modifiers) := ⟨tk_of (List.mem_of_getElem? (i := 405) rfl) rfl, tk_of (List.mem_of_getElem? (i := 404) (by decide +kernel)) rfl, tk_of (List.mem_of_getElem? (i := 44) (by decide +kernel)) rfl, by decide +kernel⟩
theorem j_B_69 : Cond.methodLink R_B 69 y_B_plainModifiers ∈ tk := tk_of (List.mem_of_getElem? (i := 406) (by decide +kernel)) rfl
theorem j_B_72 : Cond.methodLink R_B 72 y_B_isArray ∈ tk := tk_of (List.mem_of_getElem? (i := 409) (by decide +kernel)) rfl
set_option maxHeartbeats 4000000 in
set_option maxRecDepth 100000 in
theorem c_B_modifiers (l : Launch) (t : Int32) : pmI l y_B_modifiers b_B_modifiers 2 .int 1 20 [.int t] (fun r => r = f_B_modifiers t) := by
  refine pm_of (by decide) (Nat.le_of_ble_eq_true rfl) ?_
  intro p e s m below meth c ls hx hb hF hr hlk hN hl
  have hl : lv_has ls 2 [(0, .int t)] := hl
  refine lv_iload_n hx hb d_B_modifiers_0 rfl (lv_at hl 0 rfl) ?_
  refine pm_callE hF hN (c_B_plain l t) k_B_plain j_B_15 ⟨Nat.le_of_ble_eq_true rfl, Nat.le_of_ble_eq_true rfl⟩ rfl hl.1 (Nat.le_of_ble_eq_true rfl) d_B_modifiers_1 ⟨Nat.le_refl _, Nat.le_refl _⟩ ?_
  refine pm_callE hF hN (c_B_plainModifiers l (f_B_plain t)) k_B_plainModifiers j_B_69 ⟨Nat.le_of_ble_eq_true rfl, Nat.le_of_ble_eq_true rfl⟩ rfl hl.1 (Nat.le_of_ble_eq_true rfl) d_B_modifiers_4 ⟨Nat.le_refl _, Nat.le_refl _⟩ ?_
  refine lv_istore_n (lv' := [(1, .int (f_B_plainModifiers (f_B_plain t))), (0, .int t)]) hx hb d_B_modifiers_7 rfl hl (by decide) rfl (fun ls hl => ?_)
  refine lv_iload_n hx hb d_B_modifiers_8 rfl (lv_at hl 1 rfl) ?_
  refine pm_callE hF hN (c_B_isArray l t) k_B_isArray j_B_72 ⟨Nat.le_of_ble_eq_true rfl, Nat.le_of_ble_eq_true rfl⟩ rfl hl.1 (Nat.le_of_ble_eq_true rfl) d_B_modifiers_9 ⟨Nat.le_refl _, Nat.le_refl _⟩ ?_
  refine lv_if_eq (tgt := 26) hx hb d_B_modifiers_12 (by decide) (fun c_4 => ?_) (fun c_4 => ?_)
  · skip
    refine lv_iload_n hx hb d_B_modifiers_26 rfl (lv_at hl 0 rfl) ?_
    exact pm_ret hx hb hr hlk (nar_i _) (by rw [f_B_modifiers, if_pos c_4]) d_B_modifiers_27
  · skip
    refine lv_sipush (v := 1040) hx hb d_B_modifiers_15 (by decide) ?_
    refine lv_iload_n hx hb d_B_modifiers_18 rfl (lv_at hl 0 rfl) ?_
    refine lv_bipush (v := 7) hx hb d_B_modifiers_19 (by decide) ?_
    refine lv_iand hx hb d_B_modifiers_21 ?_
    refine lv_iadd hx hb d_B_modifiers_22 ?_
    refine lv_goto (tgt := 27) hx hb d_B_modifiers_23 (by decide) ?_
    exact pm_ret hx hb hr hlk (nar_i _) (by rw [f_B_modifiers, if_neg c_4]) d_B_modifiers_27
def f_B_classUp (t : Int32) : Int32 := (if t = 14 then (-3) else (if t = 15 then (if t ≤ 9 then (-2) else (if (f_B_isInterface t) = 0 then 9 else (-2))) else (if t = 16 then (-3) else (if t = 17 then 16 else (if t = 18 then (if t ≤ 9 then (-2) else (if (f_B_isInterface t) = 0 then 9 else (-2))) else (if t = 19 then (if t ≤ 9 then (-2) else (if (f_B_isInterface t) = 0 then 9 else (-2))) else (if t = 20 then (if t ≤ 9 then (-2) else (if (f_B_isInterface t) = 0 then 9 else (-2))) else (if t = 21 then (if t ≤ 9 then (-2) else (if (f_B_isInterface t) = 0 then 9 else (-2))) else (if t = 22 then 21 else (if t = 23 then 22 else (if t ≤ 9 then (-2) else (if (f_B_isInterface t) = 0 then 9 else (-2)))))))))))))
set_option maxRecDepth 100000 in
theorem k_B_classUp : ck y_B_classUp b_B_classUp 1 (some .int) 1 (.static y_B_classUp) := ⟨tk_of (List.mem_of_getElem? (i := 492) rfl) rfl, tk_of (List.mem_of_getElem? (i := 491) (by decide +kernel)) rfl, tk_of (List.mem_of_getElem? (i := 44) (by decide +kernel)) rfl, by decide +kernel⟩
theorem j_B_76 : Cond.methodLink R_B 76 y_B_isInterface ∈ tk := tk_of (List.mem_of_getElem? (i := 493) (by decide +kernel)) rfl
set_option maxHeartbeats 4000000 in
set_option maxRecDepth 100000 in
theorem c_B_classUp (l : Launch) (t : Int32) : pmI l y_B_classUp b_B_classUp 1 .int 1 20 [.int t] (fun r => r = f_B_classUp t) := by
  refine pm_of (by decide) (Nat.le_of_ble_eq_true rfl) ?_
  intro p e s m below meth c ls hx hb hF hr hlk hN hl
  have hl : lv_has ls 1 [(0, .int t)] := hl
  refine lv_iload_n hx hb d_B_classUp_0 rfl (lv_at hl 0 rfl) ?_
  by_cases c_1 : t = 14
  · refine lv_tableIn (tgt := 56) (off := 55) hx hb d_B_classUp_1 (by rw [c_1]; decide) (by rw [c_1]; decide) (by rw [c_1]; decide) (by decide) ?_
    refine lv_bipush (v := (-3)) hx hb d_B_classUp_56 (by decide) ?_
    exact pm_ret hx hb hr hlk (nar_i _) (by rw [f_B_classUp, if_pos c_1]) d_B_classUp_58
  by_cases c_2 : t = 15
  · refine lv_tableIn (tgt := 68) (off := 67) hx hb d_B_classUp_1 (by rw [c_2]; decide) (by rw [c_2]; decide) (by rw [c_2]; decide) (by decide) ?_
    refine lv_iload_n hx hb d_B_classUp_68 rfl (lv_at hl 0 rfl) ?_
    refine lv_bipush (v := 9) hx hb d_B_classUp_69 (by decide) ?_
    refine lv_icmp_le (tgt := 81) hx hb d_B_classUp_71 (by decide) (fun c_3 => ?_) (fun c_3 => ?_)
    · skip
      refine lv_bipush (v := (-2)) hx hb d_B_classUp_81 (by decide) ?_
      refine lv_goto (tgt := 88) hx hb d_B_classUp_83 (by decide) ?_
      exact pm_ret hx hb hr hlk (nar_i _) (by rw [f_B_classUp, if_neg c_1, if_pos c_2, if_pos c_3]) d_B_classUp_88
    · skip
      refine lv_iload_n hx hb d_B_classUp_74 rfl (lv_at hl 0 rfl) ?_
      refine pm_callE hF hN (c_B_isInterface l t) k_B_isInterface j_B_76 ⟨Nat.le_of_ble_eq_true rfl, Nat.le_of_ble_eq_true rfl⟩ rfl hl.1 (Nat.le_of_ble_eq_true rfl) d_B_classUp_75 ⟨Nat.le_refl _, Nat.le_refl _⟩ ?_
      refine lv_if_eq (tgt := 86) hx hb d_B_classUp_78 (by decide) (fun c_5 => ?_) (fun c_5 => ?_)
      · skip
        refine lv_bipush (v := 9) hx hb d_B_classUp_86 (by decide) ?_
        exact pm_ret hx hb hr hlk (nar_i _) (by rw [f_B_classUp, if_neg c_1, if_pos c_2, if_neg c_3, if_pos c_5]) d_B_classUp_88
      · skip
        refine lv_bipush (v := (-2)) hx hb d_B_classUp_81 (by decide) ?_
        refine lv_goto (tgt := 88) hx hb d_B_classUp_83 (by decide) ?_
        exact pm_ret hx hb hr hlk (nar_i _) (by rw [f_B_classUp, if_neg c_1, if_pos c_2, if_neg c_3, if_neg c_5]) d_B_classUp_88
  by_cases c_6 : t = 16
  · refine lv_tableIn (tgt := 56) (off := 55) hx hb d_B_classUp_1 (by rw [c_6]; decide) (by rw [c_6]; decide) (by rw [c_6]; decide) (by decide) ?_
    refine lv_bipush (v := (-3)) hx hb d_B_classUp_56 (by decide) ?_
    exact pm_ret hx hb hr hlk (nar_i _) (by rw [f_B_classUp, if_neg c_1, if_neg c_2, if_pos c_6]) d_B_classUp_58
  by_cases c_7 : t = 17
  · refine lv_tableIn (tgt := 59) (off := 58) hx hb d_B_classUp_1 (by rw [c_7]; decide) (by rw [c_7]; decide) (by rw [c_7]; decide) (by decide) ?_
    refine lv_bipush (v := 16) hx hb d_B_classUp_59 (by decide) ?_
    exact pm_ret hx hb hr hlk (nar_i _) (by rw [f_B_classUp, if_neg c_1, if_neg c_2, if_neg c_6, if_pos c_7]) d_B_classUp_61
  by_cases c_8 : t = 18
  · refine lv_tableIn (tgt := 68) (off := 67) hx hb d_B_classUp_1 (by rw [c_8]; decide) (by rw [c_8]; decide) (by rw [c_8]; decide) (by decide) ?_
    refine lv_iload_n hx hb d_B_classUp_68 rfl (lv_at hl 0 rfl) ?_
    refine lv_bipush (v := 9) hx hb d_B_classUp_69 (by decide) ?_
    refine lv_icmp_le (tgt := 81) hx hb d_B_classUp_71 (by decide) (fun c_9 => ?_) (fun c_9 => ?_)
    · skip
      refine lv_bipush (v := (-2)) hx hb d_B_classUp_81 (by decide) ?_
      refine lv_goto (tgt := 88) hx hb d_B_classUp_83 (by decide) ?_
      exact pm_ret hx hb hr hlk (nar_i _) (by rw [f_B_classUp, if_neg c_1, if_neg c_2, if_neg c_6, if_neg c_7, if_pos c_8, if_pos c_9]) d_B_classUp_88
    · skip
      refine lv_iload_n hx hb d_B_classUp_74 rfl (lv_at hl 0 rfl) ?_
      refine pm_callE hF hN (c_B_isInterface l t) k_B_isInterface j_B_76 ⟨Nat.le_of_ble_eq_true rfl, Nat.le_of_ble_eq_true rfl⟩ rfl hl.1 (Nat.le_of_ble_eq_true rfl) d_B_classUp_75 ⟨Nat.le_refl _, Nat.le_refl _⟩ ?_
      refine lv_if_eq (tgt := 86) hx hb d_B_classUp_78 (by decide) (fun c_11 => ?_) (fun c_11 => ?_)
      · skip
        refine lv_bipush (v := 9) hx hb d_B_classUp_86 (by decide) ?_
        exact pm_ret hx hb hr hlk (nar_i _) (by rw [f_B_classUp, if_neg c_1, if_neg c_2, if_neg c_6, if_neg c_7, if_pos c_8, if_neg c_9, if_pos c_11]) d_B_classUp_88
      · skip
        refine lv_bipush (v := (-2)) hx hb d_B_classUp_81 (by decide) ?_
        refine lv_goto (tgt := 88) hx hb d_B_classUp_83 (by decide) ?_
        exact pm_ret hx hb hr hlk (nar_i _) (by rw [f_B_classUp, if_neg c_1, if_neg c_2, if_neg c_6, if_neg c_7, if_pos c_8, if_neg c_9, if_neg c_11]) d_B_classUp_88
  by_cases c_12 : t = 19
  · refine lv_tableIn (tgt := 68) (off := 67) hx hb d_B_classUp_1 (by rw [c_12]; decide) (by rw [c_12]; decide) (by rw [c_12]; decide) (by decide) ?_
    refine lv_iload_n hx hb d_B_classUp_68 rfl (lv_at hl 0 rfl) ?_
    refine lv_bipush (v := 9) hx hb d_B_classUp_69 (by decide) ?_
    refine lv_icmp_le (tgt := 81) hx hb d_B_classUp_71 (by decide) (fun c_13 => ?_) (fun c_13 => ?_)
    · skip
      refine lv_bipush (v := (-2)) hx hb d_B_classUp_81 (by decide) ?_
      refine lv_goto (tgt := 88) hx hb d_B_classUp_83 (by decide) ?_
      exact pm_ret hx hb hr hlk (nar_i _) (by rw [f_B_classUp, if_neg c_1, if_neg c_2, if_neg c_6, if_neg c_7, if_neg c_8, if_pos c_12, if_pos c_13]) d_B_classUp_88
    · skip
      refine lv_iload_n hx hb d_B_classUp_74 rfl (lv_at hl 0 rfl) ?_
      refine pm_callE hF hN (c_B_isInterface l t) k_B_isInterface j_B_76 ⟨Nat.le_of_ble_eq_true rfl, Nat.le_of_ble_eq_true rfl⟩ rfl hl.1 (Nat.le_of_ble_eq_true rfl) d_B_classUp_75 ⟨Nat.le_refl _, Nat.le_refl _⟩ ?_
      refine lv_if_eq (tgt := 86) hx hb d_B_classUp_78 (by decide) (fun c_15 => ?_) (fun c_15 => ?_)
      · skip
        refine lv_bipush (v := 9) hx hb d_B_classUp_86 (by decide) ?_
        exact pm_ret hx hb hr hlk (nar_i _) (by rw [f_B_classUp, if_neg c_1, if_neg c_2, if_neg c_6, if_neg c_7, if_neg c_8, if_pos c_12, if_neg c_13, if_pos c_15]) d_B_classUp_88
      · skip
        refine lv_bipush (v := (-2)) hx hb d_B_classUp_81 (by decide) ?_
        refine lv_goto (tgt := 88) hx hb d_B_classUp_83 (by decide) ?_
        exact pm_ret hx hb hr hlk (nar_i _) (by rw [f_B_classUp, if_neg c_1, if_neg c_2, if_neg c_6, if_neg c_7, if_neg c_8, if_pos c_12, if_neg c_13, if_neg c_15]) d_B_classUp_88
  by_cases c_16 : t = 20
  · refine lv_tableIn (tgt := 68) (off := 67) hx hb d_B_classUp_1 (by rw [c_16]; decide) (by rw [c_16]; decide) (by rw [c_16]; decide) (by decide) ?_
    refine lv_iload_n hx hb d_B_classUp_68 rfl (lv_at hl 0 rfl) ?_
    refine lv_bipush (v := 9) hx hb d_B_classUp_69 (by decide) ?_
    refine lv_icmp_le (tgt := 81) hx hb d_B_classUp_71 (by decide) (fun c_17 => ?_) (fun c_17 => ?_)
    · skip
      refine lv_bipush (v := (-2)) hx hb d_B_classUp_81 (by decide) ?_
      refine lv_goto (tgt := 88) hx hb d_B_classUp_83 (by decide) ?_
      exact pm_ret hx hb hr hlk (nar_i _) (by rw [f_B_classUp, if_neg c_1, if_neg c_2, if_neg c_6, if_neg c_7, if_neg c_8, if_neg c_12, if_pos c_16, if_pos c_17]) d_B_classUp_88
    · skip
      refine lv_iload_n hx hb d_B_classUp_74 rfl (lv_at hl 0 rfl) ?_
      refine pm_callE hF hN (c_B_isInterface l t) k_B_isInterface j_B_76 ⟨Nat.le_of_ble_eq_true rfl, Nat.le_of_ble_eq_true rfl⟩ rfl hl.1 (Nat.le_of_ble_eq_true rfl) d_B_classUp_75 ⟨Nat.le_refl _, Nat.le_refl _⟩ ?_
      refine lv_if_eq (tgt := 86) hx hb d_B_classUp_78 (by decide) (fun c_19 => ?_) (fun c_19 => ?_)
      · skip
        refine lv_bipush (v := 9) hx hb d_B_classUp_86 (by decide) ?_
        exact pm_ret hx hb hr hlk (nar_i _) (by rw [f_B_classUp, if_neg c_1, if_neg c_2, if_neg c_6, if_neg c_7, if_neg c_8, if_neg c_12, if_pos c_16, if_neg c_17, if_pos c_19]) d_B_classUp_88
      · skip
        refine lv_bipush (v := (-2)) hx hb d_B_classUp_81 (by decide) ?_
        refine lv_goto (tgt := 88) hx hb d_B_classUp_83 (by decide) ?_
        exact pm_ret hx hb hr hlk (nar_i _) (by rw [f_B_classUp, if_neg c_1, if_neg c_2, if_neg c_6, if_neg c_7, if_neg c_8, if_neg c_12, if_pos c_16, if_neg c_17, if_neg c_19]) d_B_classUp_88
  by_cases c_20 : t = 21
  · refine lv_tableIn (tgt := 68) (off := 67) hx hb d_B_classUp_1 (by rw [c_20]; decide) (by rw [c_20]; decide) (by rw [c_20]; decide) (by decide) ?_
    refine lv_iload_n hx hb d_B_classUp_68 rfl (lv_at hl 0 rfl) ?_
    refine lv_bipush (v := 9) hx hb d_B_classUp_69 (by decide) ?_
    refine lv_icmp_le (tgt := 81) hx hb d_B_classUp_71 (by decide) (fun c_21 => ?_) (fun c_21 => ?_)
    · skip
      refine lv_bipush (v := (-2)) hx hb d_B_classUp_81 (by decide) ?_
      refine lv_goto (tgt := 88) hx hb d_B_classUp_83 (by decide) ?_
      exact pm_ret hx hb hr hlk (nar_i _) (by rw [f_B_classUp, if_neg c_1, if_neg c_2, if_neg c_6, if_neg c_7, if_neg c_8, if_neg c_12, if_neg c_16, if_pos c_20, if_pos c_21]) d_B_classUp_88
    · skip
      refine lv_iload_n hx hb d_B_classUp_74 rfl (lv_at hl 0 rfl) ?_
      refine pm_callE hF hN (c_B_isInterface l t) k_B_isInterface j_B_76 ⟨Nat.le_of_ble_eq_true rfl, Nat.le_of_ble_eq_true rfl⟩ rfl hl.1 (Nat.le_of_ble_eq_true rfl) d_B_classUp_75 ⟨Nat.le_refl _, Nat.le_refl _⟩ ?_
      refine lv_if_eq (tgt := 86) hx hb d_B_classUp_78 (by decide) (fun c_23 => ?_) (fun c_23 => ?_)
      · skip
        refine lv_bipush (v := 9) hx hb d_B_classUp_86 (by decide) ?_
        exact pm_ret hx hb hr hlk (nar_i _) (by rw [f_B_classUp, if_neg c_1, if_neg c_2, if_neg c_6, if_neg c_7, if_neg c_8, if_neg c_12, if_neg c_16, if_pos c_20, if_neg c_21, if_pos c_23]) d_B_classUp_88
      · skip
        refine lv_bipush (v := (-2)) hx hb d_B_classUp_81 (by decide) ?_
        refine lv_goto (tgt := 88) hx hb d_B_classUp_83 (by decide) ?_
        exact pm_ret hx hb hr hlk (nar_i _) (by rw [f_B_classUp, if_neg c_1, if_neg c_2, if_neg c_6, if_neg c_7, if_neg c_8, if_neg c_12, if_neg c_16, if_pos c_20, if_neg c_21, if_neg c_23]) d_B_classUp_88
  by_cases c_24 : t = 22
  · refine lv_tableIn (tgt := 62) (off := 61) hx hb d_B_classUp_1 (by rw [c_24]; decide) (by rw [c_24]; decide) (by rw [c_24]; decide) (by decide) ?_
    refine lv_bipush (v := 21) hx hb d_B_classUp_62 (by decide) ?_
    exact pm_ret hx hb hr hlk (nar_i _) (by rw [f_B_classUp, if_neg c_1, if_neg c_2, if_neg c_6, if_neg c_7, if_neg c_8, if_neg c_12, if_neg c_16, if_neg c_20, if_pos c_24]) d_B_classUp_64
  by_cases c_25 : t = 23
  · refine lv_tableIn (tgt := 65) (off := 64) hx hb d_B_classUp_1 (by rw [c_25]; decide) (by rw [c_25]; decide) (by rw [c_25]; decide) (by decide) ?_
    refine lv_bipush (v := 22) hx hb d_B_classUp_65 (by decide) ?_
    exact pm_ret hx hb hr hlk (nar_i _) (by rw [f_B_classUp, if_neg c_1, if_neg c_2, if_neg c_6, if_neg c_7, if_neg c_8, if_neg c_12, if_neg c_16, if_neg c_20, if_neg c_24, if_pos c_25]) d_B_classUp_67
  refine lv_tableOut (tgt := 68) hx hb d_B_classUp_1 (by have := lv_neT (a := 14) c_1 (by decide); have := lv_neT (a := 15) c_2 (by decide); have := lv_neT (a := 16) c_6 (by decide); have := lv_neT (a := 17) c_7 (by decide); have := lv_neT (a := 18) c_8 (by decide); have := lv_neT (a := 19) c_12 (by decide); have := lv_neT (a := 20) c_16 (by decide); have := lv_neT (a := 21) c_20 (by decide); have := lv_neT (a := 22) c_24 (by decide); have := lv_neT (a := 23) c_25 (by decide); omega) (by decide) ?_
  refine lv_iload_n hx hb d_B_classUp_68 rfl (lv_at hl 0 rfl) ?_
  refine lv_bipush (v := 9) hx hb d_B_classUp_69 (by decide) ?_
  refine lv_icmp_le (tgt := 81) hx hb d_B_classUp_71 (by decide) (fun c_26 => ?_) (fun c_26 => ?_)
  · skip
    refine lv_bipush (v := (-2)) hx hb d_B_classUp_81 (by decide) ?_
    refine lv_goto (tgt := 88) hx hb d_B_classUp_83 (by decide) ?_
    exact pm_ret hx hb hr hlk (nar_i _) (by rw [f_B_classUp, if_neg c_1, if_neg c_2, if_neg c_6, if_neg c_7, if_neg c_8, if_neg c_12, if_neg c_16, if_neg c_20, if_neg c_24, if_neg c_25, if_pos c_26]) d_B_classUp_88
  · skip
    refine lv_iload_n hx hb d_B_classUp_74 rfl (lv_at hl 0 rfl) ?_
    refine pm_callE hF hN (c_B_isInterface l t) k_B_isInterface j_B_76 ⟨Nat.le_of_ble_eq_true rfl, Nat.le_of_ble_eq_true rfl⟩ rfl hl.1 (Nat.le_of_ble_eq_true rfl) d_B_classUp_75 ⟨Nat.le_refl _, Nat.le_refl _⟩ ?_
    refine lv_if_eq (tgt := 86) hx hb d_B_classUp_78 (by decide) (fun c_28 => ?_) (fun c_28 => ?_)
    · skip
      refine lv_bipush (v := 9) hx hb d_B_classUp_86 (by decide) ?_
      exact pm_ret hx hb hr hlk (nar_i _) (by rw [f_B_classUp, if_neg c_1, if_neg c_2, if_neg c_6, if_neg c_7, if_neg c_8, if_neg c_12, if_neg c_16, if_neg c_20, if_neg c_24, if_neg c_25, if_neg c_26, if_pos c_28]) d_B_classUp_88
    · skip
      refine lv_bipush (v := (-2)) hx hb d_B_classUp_81 (by decide) ?_
      refine lv_goto (tgt := 88) hx hb d_B_classUp_83 (by decide) ?_
      exact pm_ret hx hb hr hlk (nar_i _) (by rw [f_B_classUp, if_neg c_1, if_neg c_2, if_neg c_6, if_neg c_7, if_neg c_8, if_neg c_12, if_neg c_16, if_neg c_20, if_neg c_24, if_neg c_25, if_neg c_26, if_neg c_28]) d_B_classUp_88
def f_B_interfaceCount (t : Int32) : Int32 := (if (f_B_isArray t) = 0 then (if t = 15 then 2 else (if t = 14 then 1 else (if t = 20 then 1 else (if t = 21 then 1 else (if t = 23 then 1 else (if t = 24 then 1 else 0)))))) else 2)
set_option maxRecDepth 100000 in
theorem k_B_interfaceCount : ck y_B_interfaceCount b_B_interfaceCount 1 (some .int) 1 (.static y_B_interfaceCount) := ⟨tk_of (List.mem_of_getElem? (i := 473) rfl) rfl, tk_of (List.mem_of_getElem? (i := 472) (by decide +kernel)) rfl, tk_of (List.mem_of_getElem? (i := 44) (by decide +kernel)) rfl, by decide +kernel⟩
set_option maxHeartbeats 4000000 in
set_option maxRecDepth 100000 in
theorem c_B_interfaceCount (l : Launch) (t : Int32) : pmI l y_B_interfaceCount b_B_interfaceCount 1 .int 1 20 [.int t] (fun r => r = f_B_interfaceCount t) := by
  refine pm_of (by decide) (Nat.le_of_ble_eq_true rfl) ?_
  intro p e s m below meth c ls hx hb hF hr hlk hN hl
  have hl : lv_has ls 1 [(0, .int t)] := hl
  refine lv_iload_n hx hb d_B_interfaceCount_0 rfl (lv_at hl 0 rfl) ?_
  refine pm_callE hF hN (c_B_isArray l t) k_B_isArray j_B_72 ⟨Nat.le_of_ble_eq_true rfl, Nat.le_of_ble_eq_true rfl⟩ rfl hl.1 (Nat.le_of_ble_eq_true rfl) d_B_interfaceCount_1 ⟨Nat.le_refl _, Nat.le_refl _⟩ ?_
  refine lv_if_ne (tgt := 13) hx hb d_B_interfaceCount_4 (by decide) (fun c_2 => ?_) (fun c_2 => ?_)
  · skip
    refine lv_iconst (v := 2) hx hb d_B_interfaceCount_13 (by decide) ?_
    exact pm_ret hx hb hr hlk (nar_i _) (by rw [f_B_interfaceCount, if_neg c_2]) d_B_interfaceCount_14
  · skip
    refine lv_iload_n hx hb d_B_interfaceCount_7 rfl (lv_at hl 0 rfl) ?_
    refine lv_bipush (v := 15) hx hb d_B_interfaceCount_8 (by decide) ?_
    refine lv_icmp_ne (tgt := 15) hx hb d_B_interfaceCount_10 (by decide) (fun c_3 => ?_) (fun c_3 => ?_)
    · skip
      refine lv_iload_n hx hb d_B_interfaceCount_15 rfl (lv_at hl 0 rfl) ?_
      refine lv_bipush (v := 14) hx hb d_B_interfaceCount_16 (by decide) ?_
      refine lv_icmp_eq (tgt := 45) hx hb d_B_interfaceCount_18 (by decide) (fun c_4 => ?_) (fun c_4 => ?_)
      · skip
        refine lv_iconst (v := 1) hx hb d_B_interfaceCount_45 (by decide) ?_
        refine lv_goto (tgt := 50) hx hb d_B_interfaceCount_46 (by decide) ?_
        exact pm_ret hx hb hr hlk (nar_i _) (by rw [f_B_interfaceCount, if_pos c_2, if_neg c_3, if_pos c_4]) d_B_interfaceCount_50
      · skip
        refine lv_iload_n hx hb d_B_interfaceCount_21 rfl (lv_at hl 0 rfl) ?_
        refine lv_bipush (v := 20) hx hb d_B_interfaceCount_22 (by decide) ?_
        refine lv_icmp_eq (tgt := 45) hx hb d_B_interfaceCount_24 (by decide) (fun c_5 => ?_) (fun c_5 => ?_)
        · skip
          refine lv_iconst (v := 1) hx hb d_B_interfaceCount_45 (by decide) ?_
          refine lv_goto (tgt := 50) hx hb d_B_interfaceCount_46 (by decide) ?_
          exact pm_ret hx hb hr hlk (nar_i _) (by rw [f_B_interfaceCount, if_pos c_2, if_neg c_3, if_neg c_4, if_pos c_5]) d_B_interfaceCount_50
        · skip
          refine lv_iload_n hx hb d_B_interfaceCount_27 rfl (lv_at hl 0 rfl) ?_
          refine lv_bipush (v := 21) hx hb d_B_interfaceCount_28 (by decide) ?_
          refine lv_icmp_eq (tgt := 45) hx hb d_B_interfaceCount_30 (by decide) (fun c_6 => ?_) (fun c_6 => ?_)
          · skip
            refine lv_iconst (v := 1) hx hb d_B_interfaceCount_45 (by decide) ?_
            refine lv_goto (tgt := 50) hx hb d_B_interfaceCount_46 (by decide) ?_
            exact pm_ret hx hb hr hlk (nar_i _) (by rw [f_B_interfaceCount, if_pos c_2, if_neg c_3, if_neg c_4, if_neg c_5, if_pos c_6]) d_B_interfaceCount_50
          · skip
            refine lv_iload_n hx hb d_B_interfaceCount_33 rfl (lv_at hl 0 rfl) ?_
            refine lv_bipush (v := 23) hx hb d_B_interfaceCount_34 (by decide) ?_
            refine lv_icmp_eq (tgt := 45) hx hb d_B_interfaceCount_36 (by decide) (fun c_7 => ?_) (fun c_7 => ?_)
            · skip
              refine lv_iconst (v := 1) hx hb d_B_interfaceCount_45 (by decide) ?_
              refine lv_goto (tgt := 50) hx hb d_B_interfaceCount_46 (by decide) ?_
              exact pm_ret hx hb hr hlk (nar_i _) (by rw [f_B_interfaceCount, if_pos c_2, if_neg c_3, if_neg c_4, if_neg c_5, if_neg c_6, if_pos c_7]) d_B_interfaceCount_50
            · skip
              refine lv_iload_n hx hb d_B_interfaceCount_39 rfl (lv_at hl 0 rfl) ?_
              refine lv_bipush (v := 24) hx hb d_B_interfaceCount_40 (by decide) ?_
              refine lv_icmp_ne (tgt := 49) hx hb d_B_interfaceCount_42 (by decide) (fun c_8 => ?_) (fun c_8 => ?_)
              · skip
                refine lv_iconst (v := 0) hx hb d_B_interfaceCount_49 (by decide) ?_
                exact pm_ret hx hb hr hlk (nar_i _) (by rw [f_B_interfaceCount, if_pos c_2, if_neg c_3, if_neg c_4, if_neg c_5, if_neg c_6, if_neg c_7, if_neg c_8]) d_B_interfaceCount_50
              · skip
                refine lv_iconst (v := 1) hx hb d_B_interfaceCount_45 (by decide) ?_
                refine lv_goto (tgt := 50) hx hb d_B_interfaceCount_46 (by decide) ?_
                exact pm_ret hx hb hr hlk (nar_i _) (by rw [f_B_interfaceCount, if_pos c_2, if_neg c_3, if_neg c_4, if_neg c_5, if_neg c_6, if_neg c_7, if_pos c_8]) d_B_interfaceCount_50
    · skip
      refine lv_iconst (v := 2) hx hb d_B_interfaceCount_13 (by decide) ?_
      exact pm_ret hx hb hr hlk (nar_i _) (by rw [f_B_interfaceCount, if_pos c_2, if_pos c_3]) d_B_interfaceCount_14
def f_B_interfaceAt (t : Int32) (k : Int32) : Int32 := (if k < 0 then (-2) else (if k < (f_B_interfaceCount t) then (if t = 14 then 13 else (if t = 15 then (if k = 0 then 13 else 12) else (if t = 23 then 12 else (if t = 24 then 10 else (-3))))) else (-2)))
set_option maxRecDepth 100000 in
theorem k_B_interfaceAt : ck y_B_interfaceAt b_B_interfaceAt 2 (some .int) 2 (.static y_B_interfaceAt) := ⟨tk_of (List.mem_of_getElem? (i := 507) rfl) rfl, tk_of (List.mem_of_getElem? (i := 506) (by decide +kernel)) rfl, tk_of (List.mem_of_getElem? (i := 44) (by decide +kernel)) rfl, by decide +kernel⟩
theorem j_B_79 : Cond.methodLink R_B 79 y_B_interfaceCount ∈ tk := tk_of (List.mem_of_getElem? (i := 508) (by decide +kernel)) rfl
set_option maxHeartbeats 4000000 in
set_option maxRecDepth 100000 in
theorem c_B_interfaceAt (l : Launch) (t : Int32) (k : Int32) : pmI l y_B_interfaceAt b_B_interfaceAt 2 .int 2 40 [.int t, .int k] (fun r => r = f_B_interfaceAt t k) := by
  refine pm_of (by decide) (Nat.le_of_ble_eq_true rfl) ?_
  intro p e s m below meth c ls hx hb hF hr hlk hN hl
  have hl : lv_has ls 2 [(0, .int t), (1, .int k)] := hl
  refine lv_iload_n hx hb d_B_interfaceAt_0 rfl (lv_at hl 1 rfl) ?_
  refine lv_if_lt (tgt := 12) hx hb d_B_interfaceAt_1 (by decide) (fun c_1 => ?_) (fun c_1 => ?_)
  · skip
    refine lv_bipush (v := (-2)) hx hb d_B_interfaceAt_12 (by decide) ?_
    exact pm_ret hx hb hr hlk (nar_i _) (by rw [f_B_interfaceAt, if_pos c_1]) d_B_interfaceAt_14
  · skip
    refine lv_iload_n hx hb d_B_interfaceAt_4 rfl (lv_at hl 1 rfl) ?_
    refine lv_iload_n hx hb d_B_interfaceAt_5 rfl (lv_at hl 0 rfl) ?_
    refine pm_callE hF hN (c_B_interfaceCount l t) k_B_interfaceCount j_B_79 ⟨Nat.le_of_ble_eq_true rfl, Nat.le_of_ble_eq_true rfl⟩ rfl hl.1 (Nat.le_of_ble_eq_true rfl) d_B_interfaceAt_6 ⟨Nat.le_refl _, Nat.le_refl _⟩ ?_
    refine lv_icmp_lt (tgt := 15) hx hb d_B_interfaceAt_9 (by decide) (fun c_3 => ?_) (fun c_3 => ?_)
    · skip
      refine lv_iload_n hx hb d_B_interfaceAt_15 rfl (lv_at hl 0 rfl) ?_
      by_cases c_4 : t = 14
      · refine lv_lookup (tgt := 60) (off := 44) hx hb d_B_interfaceAt_16 (by decide) (by rw [c_4]; decide) (by decide) ?_
        refine lv_bipush (v := 13) hx hb d_B_interfaceAt_60 (by decide) ?_
        exact pm_ret hx hb hr hlk (nar_i _) (by rw [f_B_interfaceAt, if_neg c_1, if_pos c_3, if_pos c_4]) d_B_interfaceAt_62
      by_cases c_5 : t = 15
      · refine lv_lookup (tgt := 63) (off := 47) hx hb d_B_interfaceAt_16 (by decide) (by rw [c_5]; decide) (by decide) ?_
        refine lv_iload_n hx hb d_B_interfaceAt_63 rfl (lv_at hl 1 rfl) ?_
        refine lv_if_ne (tgt := 72) hx hb d_B_interfaceAt_64 (by decide) (fun c_6 => ?_) (fun c_6 => ?_)
        · skip
          refine lv_bipush (v := 12) hx hb d_B_interfaceAt_72 (by decide) ?_
          exact pm_ret hx hb hr hlk (nar_i _) (by rw [f_B_interfaceAt, if_neg c_1, if_pos c_3, if_neg c_4, if_pos c_5, if_neg c_6]) d_B_interfaceAt_74
        · skip
          refine lv_bipush (v := 13) hx hb d_B_interfaceAt_67 (by decide) ?_
          refine lv_goto (tgt := 74) hx hb d_B_interfaceAt_69 (by decide) ?_
          exact pm_ret hx hb hr hlk (nar_i _) (by rw [f_B_interfaceAt, if_neg c_1, if_pos c_3, if_neg c_4, if_pos c_5, if_pos c_6]) d_B_interfaceAt_74
      by_cases c_7 : t = 23
      · refine lv_lookup (tgt := 75) (off := 59) hx hb d_B_interfaceAt_16 (by decide) (by rw [c_7]; decide) (by decide) ?_
        refine lv_bipush (v := 12) hx hb d_B_interfaceAt_75 (by decide) ?_
        exact pm_ret hx hb hr hlk (nar_i _) (by rw [f_B_interfaceAt, if_neg c_1, if_pos c_3, if_neg c_4, if_neg c_5, if_pos c_7]) d_B_interfaceAt_77
      by_cases c_8 : t = 24
      · refine lv_lookup (tgt := 78) (off := 62) hx hb d_B_interfaceAt_16 (by decide) (by rw [c_8]; decide) (by decide) ?_
        refine lv_bipush (v := 10) hx hb d_B_interfaceAt_78 (by decide) ?_
        exact pm_ret hx hb hr hlk (nar_i _) (by rw [f_B_interfaceAt, if_neg c_1, if_pos c_3, if_neg c_4, if_neg c_5, if_neg c_7, if_pos c_8]) d_B_interfaceAt_80
      refine lv_lookup (tgt := 81) (off := 65) hx hb d_B_interfaceAt_16 (by decide) ((lv_osw c_4 (by decide)).trans ((lv_osw c_5 (by decide)).trans ((lv_osw c_7 (by decide)).trans ((lv_osw c_8 (by decide)).trans (rfl))))) (by decide) ?_
      refine lv_bipush (v := (-3)) hx hb d_B_interfaceAt_81 (by decide) ?_
      exact pm_ret hx hb hr hlk (nar_i _) (by rw [f_B_interfaceAt, if_neg c_1, if_pos c_3, if_neg c_4, if_neg c_5, if_neg c_7, if_neg c_8]) d_B_interfaceAt_83
    · skip
      refine lv_bipush (v := (-2)) hx hb d_B_interfaceAt_12 (by decide) ?_
      exact pm_ret hx hb hr hlk (nar_i _) (by rw [f_B_interfaceAt, if_neg c_1, if_neg c_3]) d_B_interfaceAt_14
def f_B_standsIn (t : Int32) : Int32 := (if t = 17 then 16 else (if t = 19 then 18 else (if (f_B_isInNest t) = 0 then (-2) else (if t = 11 then (-2) else 11))))
set_option maxRecDepth 100000 in
theorem k_B_standsIn : ck y_B_standsIn b_B_standsIn 1 (some .int) 1 (.static y_B_standsIn) := ⟨tk_of (List.mem_of_getElem? (i := 496) rfl) rfl, tk_of (List.mem_of_getElem? (i := 495) (by decide +kernel)) rfl, tk_of (List.mem_of_getElem? (i := 44) (by decide +kernel)) rfl, by decide +kernel⟩
theorem j_B_96 : Cond.methodLink R_B 96 y_B_isInNest ∈ tk := tk_of (List.mem_of_getElem? (i := 483) (by decide +kernel)) rfl
set_option maxHeartbeats 4000000 in
set_option maxRecDepth 100000 in
theorem c_B_standsIn (l : Launch) (t : Int32) : pmI l y_B_standsIn b_B_standsIn 1 .int 1 20 [.int t] (fun r => r = f_B_standsIn t) := by
  refine pm_of (by decide) (Nat.le_of_ble_eq_true rfl) ?_
  intro p e s m below meth c ls hx hb hF hr hlk hN hl
  have hl : lv_has ls 1 [(0, .int t)] := hl
  refine lv_iload_n hx hb d_B_standsIn_0 rfl (lv_at hl 0 rfl) ?_
  refine lv_bipush (v := 17) hx hb d_B_standsIn_1 (by decide) ?_
  refine lv_icmp_ne (tgt := 9) hx hb d_B_standsIn_3 (by decide) (fun c_1 => ?_) (fun c_1 => ?_)
  · skip
    refine lv_iload_n hx hb d_B_standsIn_9 rfl (lv_at hl 0 rfl) ?_
    refine lv_bipush (v := 19) hx hb d_B_standsIn_10 (by decide) ?_
    refine lv_icmp_ne (tgt := 18) hx hb d_B_standsIn_12 (by decide) (fun c_2 => ?_) (fun c_2 => ?_)
    · skip
      refine lv_iload_n hx hb d_B_standsIn_18 rfl (lv_at hl 0 rfl) ?_
      refine pm_callE hF hN (c_B_isInNest l t) k_B_isInNest j_B_96 ⟨Nat.le_of_ble_eq_true rfl, Nat.le_of_ble_eq_true rfl⟩ rfl hl.1 (Nat.le_of_ble_eq_true rfl) d_B_standsIn_19 ⟨Nat.le_refl _, Nat.le_refl _⟩ ?_
      refine lv_if_eq (tgt := 36) hx hb d_B_standsIn_22 (by decide) (fun c_4 => ?_) (fun c_4 => ?_)
      · skip
        refine lv_bipush (v := (-2)) hx hb d_B_standsIn_36 (by decide) ?_
        exact pm_ret hx hb hr hlk (nar_i _) (by rw [f_B_standsIn, if_neg c_1, if_neg c_2, if_pos c_4]) d_B_standsIn_38
      · skip
        refine lv_iload_n hx hb d_B_standsIn_25 rfl (lv_at hl 0 rfl) ?_
        refine lv_bipush (v := 11) hx hb d_B_standsIn_26 (by decide) ?_
        refine lv_icmp_eq (tgt := 36) hx hb d_B_standsIn_28 (by decide) (fun c_5 => ?_) (fun c_5 => ?_)
        · skip
          refine lv_bipush (v := (-2)) hx hb d_B_standsIn_36 (by decide) ?_
          exact pm_ret hx hb hr hlk (nar_i _) (by rw [f_B_standsIn, if_neg c_1, if_neg c_2, if_neg c_4, if_pos c_5]) d_B_standsIn_38
        · skip
          refine lv_bipush (v := 11) hx hb d_B_standsIn_31 (by decide) ?_
          refine lv_goto (tgt := 38) hx hb d_B_standsIn_33 (by decide) ?_
          exact pm_ret hx hb hr hlk (nar_i _) (by rw [f_B_standsIn, if_neg c_1, if_neg c_2, if_neg c_4, if_neg c_5]) d_B_standsIn_38
    · skip
      refine lv_bipush (v := 18) hx hb d_B_standsIn_15 (by decide) ?_
      exact pm_ret hx hb hr hlk (nar_i _) (by rw [f_B_standsIn, if_neg c_1, if_pos c_2]) d_B_standsIn_17
  · skip
    refine lv_bipush (v := 16) hx hb d_B_standsIn_6 (by decide) ?_
    exact pm_ret hx hb hr hlk (nar_i _) (by rw [f_B_standsIn, if_pos c_1]) d_B_standsIn_8
def f_B_permitted (t : Int32) : Int32 := (if t = 13 then 2 else (if t = 16 then 1 else (-2)))
set_option maxRecDepth 100000 in
theorem k_B_permitted : ck y_B_permitted b_B_permitted 1 (some .int) 1 (.static y_B_permitted) := ⟨tk_of (List.mem_of_getElem? (i := 476) rfl) rfl, tk_of (List.mem_of_getElem? (i := 475) (by decide +kernel)) rfl, tk_of (List.mem_of_getElem? (i := 44) (by decide +kernel)) rfl, by decide +kernel⟩
set_option maxHeartbeats 4000000 in
set_option maxRecDepth 100000 in
theorem c_B_permitted (l : Launch) (t : Int32) : pmI l y_B_permitted b_B_permitted 1 .int 0 0 [.int t] (fun r => r = f_B_permitted t) := by
  refine pm_of (by decide) (Nat.le_of_ble_eq_true rfl) ?_
  intro p e s m below meth c ls hx hb hF hr hlk hN hl
  have hl : lv_has ls 1 [(0, .int t)] := hl
  refine lv_iload_n hx hb d_B_permitted_0 rfl (lv_at hl 0 rfl) ?_
  refine lv_bipush (v := 13) hx hb d_B_permitted_1 (by decide) ?_
  refine lv_icmp_ne (tgt := 8) hx hb d_B_permitted_3 (by decide) (fun c_1 => ?_) (fun c_1 => ?_)
  · skip
    refine lv_iload_n hx hb d_B_permitted_8 rfl (lv_at hl 0 rfl) ?_
    refine lv_bipush (v := 16) hx hb d_B_permitted_9 (by decide) ?_
    refine lv_icmp_ne (tgt := 18) hx hb d_B_permitted_11 (by decide) (fun c_2 => ?_) (fun c_2 => ?_)
    · skip
      refine lv_bipush (v := (-2)) hx hb d_B_permitted_18 (by decide) ?_
      exact pm_ret hx hb hr hlk (nar_i _) (by rw [f_B_permitted, if_neg c_1, if_neg c_2]) d_B_permitted_20
    · skip
      refine lv_iconst (v := 1) hx hb d_B_permitted_14 (by decide) ?_
      refine lv_goto (tgt := 20) hx hb d_B_permitted_15 (by decide) ?_
      exact pm_ret hx hb hr hlk (nar_i _) (by rw [f_B_permitted, if_neg c_1, if_pos c_2]) d_B_permitted_20
  · skip
    refine lv_iconst (v := 2) hx hb d_B_permitted_6 (by decide) ?_
    exact pm_ret hx hb hr hlk (nar_i _) (by rw [f_B_permitted, if_pos c_1]) d_B_permitted_7
def f_B_memberCount (t : Int32) : Int32 := (if t = 11 then 9 else (if t = 18 then 1 else 0))
set_option maxRecDepth 100000 in
theorem k_B_memberCount : ck y_B_memberCount b_B_memberCount 1 (some .int) 1 (.static y_B_memberCount) := ⟨tk_of (List.mem_of_getElem? (i := 479) rfl) rfl, tk_of (List.mem_of_getElem? (i := 478) (by decide +kernel)) rfl, tk_of (List.mem_of_getElem? (i := 44) (by decide +kernel)) rfl, by decide +kernel⟩
set_option maxHeartbeats 4000000 in
set_option maxRecDepth 100000 in
theorem c_B_memberCount (l : Launch) (t : Int32) : pmI l y_B_memberCount b_B_memberCount 1 .int 0 0 [.int t] (fun r => r = f_B_memberCount t) := by
  refine pm_of (by decide) (Nat.le_of_ble_eq_true rfl) ?_
  intro p e s m below meth c ls hx hb hF hr hlk hN hl
  have hl : lv_has ls 1 [(0, .int t)] := hl
  refine lv_iload_n hx hb d_B_memberCount_0 rfl (lv_at hl 0 rfl) ?_
  refine lv_bipush (v := 11) hx hb d_B_memberCount_1 (by decide) ?_
  refine lv_icmp_ne (tgt := 9) hx hb d_B_memberCount_3 (by decide) (fun c_1 => ?_) (fun c_1 => ?_)
  · skip
    refine lv_iload_n hx hb d_B_memberCount_9 rfl (lv_at hl 0 rfl) ?_
    refine lv_bipush (v := 18) hx hb d_B_memberCount_10 (by decide) ?_
    refine lv_icmp_ne (tgt := 19) hx hb d_B_memberCount_12 (by decide) (fun c_2 => ?_) (fun c_2 => ?_)
    · skip
      refine lv_iconst (v := 0) hx hb d_B_memberCount_19 (by decide) ?_
      exact pm_ret hx hb hr hlk (nar_i _) (by rw [f_B_memberCount, if_neg c_1, if_neg c_2]) d_B_memberCount_20
    · skip
      refine lv_iconst (v := 1) hx hb d_B_memberCount_15 (by decide) ?_
      refine lv_goto (tgt := 20) hx hb d_B_memberCount_16 (by decide) ?_
      exact pm_ret hx hb hr hlk (nar_i _) (by rw [f_B_memberCount, if_neg c_1, if_pos c_2]) d_B_memberCount_20
  · skip
    refine lv_bipush (v := 9) hx hb d_B_memberCount_6 (by decide) ?_
    exact pm_ret hx hb hr hlk (nar_i _) (by rw [f_B_memberCount, if_pos c_1]) d_B_memberCount_8
def f_B_nestSize (t : Int32) : Int32 := (if t = 9 then (-1) else (if t = 10 then (-1) else (if (f_B_isInNest t) = 0 then 1 else 14)))
set_option maxRecDepth 100000 in
theorem k_B_nestSize : ck y_B_nestSize b_B_nestSize 1 (some .int) 1 (.static y_B_nestSize) := ⟨tk_of (List.mem_of_getElem? (i := 482) rfl) rfl, tk_of (List.mem_of_getElem? (i := 481) (by decide +kernel)) rfl, tk_of (List.mem_of_getElem? (i := 44) (by decide +kernel)) rfl, by decide +kernel⟩
set_option maxHeartbeats 4000000 in
set_option maxRecDepth 100000 in
theorem c_B_nestSize (l : Launch) (t : Int32) : pmI l y_B_nestSize b_B_nestSize 1 .int 1 20 [.int t] (fun r => r = f_B_nestSize t) := by
  refine pm_of (by decide) (Nat.le_of_ble_eq_true rfl) ?_
  intro p e s m below meth c ls hx hb hF hr hlk hN hl
  have hl : lv_has ls 1 [(0, .int t)] := hl
  refine lv_iload_n hx hb d_B_nestSize_0 rfl (lv_at hl 0 rfl) ?_
  refine lv_bipush (v := 9) hx hb d_B_nestSize_1 (by decide) ?_
  refine lv_icmp_eq (tgt := 12) hx hb d_B_nestSize_3 (by decide) (fun c_1 => ?_) (fun c_1 => ?_)
  · skip
    refine lv_iconst (v := (-1)) hx hb d_B_nestSize_12 (by decide) ?_
    exact pm_ret hx hb hr hlk (nar_i _) (by rw [f_B_nestSize, if_pos c_1]) d_B_nestSize_13
  · skip
    refine lv_iload_n hx hb d_B_nestSize_6 rfl (lv_at hl 0 rfl) ?_
    refine lv_bipush (v := 10) hx hb d_B_nestSize_7 (by decide) ?_
    refine lv_icmp_ne (tgt := 14) hx hb d_B_nestSize_9 (by decide) (fun c_2 => ?_) (fun c_2 => ?_)
    · skip
      refine lv_iload_n hx hb d_B_nestSize_14 rfl (lv_at hl 0 rfl) ?_
      refine pm_callE hF hN (c_B_isInNest l t) k_B_isInNest j_B_96 ⟨Nat.le_of_ble_eq_true rfl, Nat.le_of_ble_eq_true rfl⟩ rfl hl.1 (Nat.le_of_ble_eq_true rfl) d_B_nestSize_15 ⟨Nat.le_refl _, Nat.le_refl _⟩ ?_
      refine lv_if_eq (tgt := 26) hx hb d_B_nestSize_18 (by decide) (fun c_4 => ?_) (fun c_4 => ?_)
      · skip
        refine lv_iconst (v := 1) hx hb d_B_nestSize_26 (by decide) ?_
        exact pm_ret hx hb hr hlk (nar_i _) (by rw [f_B_nestSize, if_neg c_1, if_neg c_2, if_pos c_4]) d_B_nestSize_27
      · skip
        refine lv_bipush (v := 14) hx hb d_B_nestSize_21 (by decide) ?_
        refine lv_goto (tgt := 27) hx hb d_B_nestSize_23 (by decide) ?_
        exact pm_ret hx hb hr hlk (nar_i _) (by rw [f_B_nestSize, if_neg c_1, if_neg c_2, if_neg c_4]) d_B_nestSize_27
    · skip
      refine lv_iconst (v := (-1)) hx hb d_B_nestSize_12 (by decide) ?_
      exact pm_ret hx hb hr hlk (nar_i _) (by rw [f_B_nestSize, if_neg c_1, if_pos c_2]) d_B_nestSize_13
def f_B_arrayOf (t : Int32) (k : Int32) : Int32 := (if k ≤ 0 then (if k ≤ (2 - (f_B_levels t)) then (t + (k * 40)) else (-3)) else (if t = 8 then (-2) else (if k ≤ (2 - (f_B_levels t)) then (t + (k * 40)) else (-3))))
set_option maxRecDepth 100000 in
theorem k_B_arrayOf : ck y_B_arrayOf b_B_arrayOf 2 (some .int) 2 (.static y_B_arrayOf) := ⟨tk_of (List.mem_of_getElem? (i := 500) rfl) rfl, tk_of (List.mem_of_getElem? (i := 499) (by decide +kernel)) rfl, tk_of (List.mem_of_getElem? (i := 44) (by decide +kernel)) rfl, by decide +kernel⟩
set_option maxHeartbeats 4000000 in
set_option maxRecDepth 100000 in
theorem c_B_arrayOf (l : Launch) (t : Int32) (k : Int32) : pmI l y_B_arrayOf b_B_arrayOf 2 .int 1 20 [.int t, .int k] (fun r => r = f_B_arrayOf t k) := by
  refine pm_of (by decide) (Nat.le_of_ble_eq_true rfl) ?_
  intro p e s m below meth c ls hx hb hF hr hlk hN hl
  have hl : lv_has ls 2 [(0, .int t), (1, .int k)] := hl
  refine lv_iload_n hx hb d_B_arrayOf_0 rfl (lv_at hl 1 rfl) ?_
  refine lv_if_le (tgt := 13) hx hb d_B_arrayOf_1 (by decide) (fun c_1 => ?_) (fun c_1 => ?_)
  · skip
    refine lv_iload_n hx hb d_B_arrayOf_13 rfl (lv_at hl 1 rfl) ?_
    refine lv_iconst (v := 2) hx hb d_B_arrayOf_14 (by decide) ?_
    refine lv_iload_n hx hb d_B_arrayOf_15 rfl (lv_at hl 0 rfl) ?_
    refine pm_callE hF hN (c_B_levels l t) k_B_levels j_B_9 ⟨Nat.le_of_ble_eq_true rfl, Nat.le_of_ble_eq_true rfl⟩ rfl hl.1 (Nat.le_of_ble_eq_true rfl) d_B_arrayOf_16 ⟨Nat.le_refl _, Nat.le_refl _⟩ ?_
    refine lv_isub hx hb d_B_arrayOf_19 ?_
    refine lv_icmp_le (tgt := 28) hx hb d_B_arrayOf_20 (by decide) (fun c_3 => ?_) (fun c_3 => ?_)
    · skip
      refine lv_iload_n hx hb d_B_arrayOf_28 rfl (lv_at hl 0 rfl) ?_
      refine lv_iload_n hx hb d_B_arrayOf_29 rfl (lv_at hl 1 rfl) ?_
      refine lv_bipush (v := 40) hx hb d_B_arrayOf_30 (by decide) ?_
      refine lv_imul hx hb d_B_arrayOf_32 ?_
      refine lv_iadd hx hb d_B_arrayOf_33 ?_
      exact pm_ret hx hb hr hlk (nar_i _) (by rw [f_B_arrayOf, if_pos c_1, if_pos c_3]) d_B_arrayOf_34
    · skip
      refine lv_bipush (v := (-3)) hx hb d_B_arrayOf_23 (by decide) ?_
      refine lv_goto (tgt := 34) hx hb d_B_arrayOf_25 (by decide) ?_
      exact pm_ret hx hb hr hlk (nar_i _) (by rw [f_B_arrayOf, if_pos c_1, if_neg c_3]) d_B_arrayOf_34
  · skip
    refine lv_iload_n hx hb d_B_arrayOf_4 rfl (lv_at hl 0 rfl) ?_
    refine lv_bipush (v := 8) hx hb d_B_arrayOf_5 (by decide) ?_
    refine lv_icmp_ne (tgt := 13) hx hb d_B_arrayOf_7 (by decide) (fun c_4 => ?_) (fun c_4 => ?_)
    · skip
      refine lv_iload_n hx hb d_B_arrayOf_13 rfl (lv_at hl 1 rfl) ?_
      refine lv_iconst (v := 2) hx hb d_B_arrayOf_14 (by decide) ?_
      refine lv_iload_n hx hb d_B_arrayOf_15 rfl (lv_at hl 0 rfl) ?_
      refine pm_callE hF hN (c_B_levels l t) k_B_levels j_B_9 ⟨Nat.le_of_ble_eq_true rfl, Nat.le_of_ble_eq_true rfl⟩ rfl hl.1 (Nat.le_of_ble_eq_true rfl) d_B_arrayOf_16 ⟨Nat.le_refl _, Nat.le_refl _⟩ ?_
      refine lv_isub hx hb d_B_arrayOf_19 ?_
      refine lv_icmp_le (tgt := 28) hx hb d_B_arrayOf_20 (by decide) (fun c_6 => ?_) (fun c_6 => ?_)
      · skip
        refine lv_iload_n hx hb d_B_arrayOf_28 rfl (lv_at hl 0 rfl) ?_
        refine lv_iload_n hx hb d_B_arrayOf_29 rfl (lv_at hl 1 rfl) ?_
        refine lv_bipush (v := 40) hx hb d_B_arrayOf_30 (by decide) ?_
        refine lv_imul hx hb d_B_arrayOf_32 ?_
        refine lv_iadd hx hb d_B_arrayOf_33 ?_
        exact pm_ret hx hb hr hlk (nar_i _) (by rw [f_B_arrayOf, if_neg c_1, if_neg c_4, if_pos c_6]) d_B_arrayOf_34
      · skip
        refine lv_bipush (v := (-3)) hx hb d_B_arrayOf_23 (by decide) ?_
        refine lv_goto (tgt := 34) hx hb d_B_arrayOf_25 (by decide) ?_
        exact pm_ret hx hb hr hlk (nar_i _) (by rw [f_B_arrayOf, if_neg c_1, if_neg c_4, if_neg c_6]) d_B_arrayOf_34
    · skip
      refine lv_bipush (v := (-2)) hx hb d_B_arrayOf_10 (by decide) ?_
      exact pm_ret hx hb hr hlk (nar_i _) (by rw [f_B_arrayOf, if_neg c_1, if_pos c_4]) d_B_arrayOf_12
def f_B_hasThings (t : Int32) : Int32 := (if t = 9 then 1 else (if t < 11 then 0 else (if (f_B_isInterface t) = 0 then (if t = 21 then 0 else 1) else 0)))
set_option maxRecDepth 100000 in
theorem z_B_hasThings (t : Int32) : f_B_hasThings t = 0 ∨ f_B_hasThings t = 1 := by
  unfold f_B_hasThings
  repeat' first | with_reducible refine z_ite ?_ ?_ | with_reducible exact z_B_isInterface _ | with_reducible exact Or.inl rfl | with_reducible exact Or.inr rfl
set_option maxRecDepth 100000 in
theorem k_B_hasThings : ck y_B_hasThings b_B_hasThings 1 (some .boolean) 1 (.static y_B_hasThings) := ⟨tk_of (List.mem_of_getElem? (i := 640) rfl) rfl, tk_of (List.mem_of_getElem? (i := 639) (by decide +kernel)) rfl, tk_of (List.mem_of_getElem? (i := 44) (by decide +kernel)) rfl, by decide +kernel⟩
set_option maxHeartbeats 4000000 in
set_option maxRecDepth 100000 in
theorem c_B_hasThings (l : Launch) (t : Int32) : pmI l y_B_hasThings b_B_hasThings 1 .boolean 1 20 [.int t] (fun r => r = f_B_hasThings t) := by
  refine pm_of (by decide) (Nat.le_of_ble_eq_true rfl) ?_
  intro p e s m below meth c ls hx hb hF hr hlk hN hl
  have hl : lv_has ls 1 [(0, .int t)] := hl
  refine lv_iload_n hx hb d_B_hasThings_0 rfl (lv_at hl 0 rfl) ?_
  refine lv_bipush (v := 9) hx hb d_B_hasThings_1 (by decide) ?_
  refine lv_icmp_eq (tgt := 25) hx hb d_B_hasThings_3 (by decide) (fun c_1 => ?_) (fun c_1 => ?_)
  · skip
    refine lv_iconst (v := 1) hx hb d_B_hasThings_25 (by decide) ?_
    refine lv_goto (tgt := 30) hx hb d_B_hasThings_26 (by decide) ?_
    exact pm_ret hx hb hr hlk (by decide) (by rw [f_B_hasThings, if_pos c_1]) d_B_hasThings_30
  · skip
    refine lv_iload_n hx hb d_B_hasThings_6 rfl (lv_at hl 0 rfl) ?_
    refine lv_bipush (v := 11) hx hb d_B_hasThings_7 (by decide) ?_
    refine lv_icmp_lt (tgt := 29) hx hb d_B_hasThings_9 (by decide) (fun c_2 => ?_) (fun c_2 => ?_)
    · skip
      refine lv_iconst (v := 0) hx hb d_B_hasThings_29 (by decide) ?_
      exact pm_ret hx hb hr hlk (by decide) (by rw [f_B_hasThings, if_neg c_1, if_pos c_2]) d_B_hasThings_30
    · skip
      refine lv_iload_n hx hb d_B_hasThings_12 rfl (lv_at hl 0 rfl) ?_
      refine pm_callE hF hN (c_B_isInterface l t) k_B_isInterface j_B_76 ⟨Nat.le_of_ble_eq_true rfl, Nat.le_of_ble_eq_true rfl⟩ rfl hl.1 (Nat.le_of_ble_eq_true rfl) d_B_hasThings_13 ⟨Nat.le_refl _, Nat.le_refl _⟩ ?_
      refine lv_if_ne (tgt := 29) hx hb d_B_hasThings_16 (by decide) (fun c_4 => ?_) (fun c_4 => ?_)
      · skip
        refine lv_iconst (v := 0) hx hb d_B_hasThings_29 (by decide) ?_
        exact pm_ret hx hb hr hlk (by decide) (by rw [f_B_hasThings, if_neg c_1, if_neg c_2, if_neg c_4]) d_B_hasThings_30
      · skip
        refine lv_iload_n hx hb d_B_hasThings_19 rfl (lv_at hl 0 rfl) ?_
        refine lv_bipush (v := 21) hx hb d_B_hasThings_20 (by decide) ?_
        refine lv_icmp_eq (tgt := 29) hx hb d_B_hasThings_22 (by decide) (fun c_5 => ?_) (fun c_5 => ?_)
        · skip
          refine lv_iconst (v := 0) hx hb d_B_hasThings_29 (by decide) ?_
          exact pm_ret hx hb hr hlk (by decide) (by rw [f_B_hasThings, if_neg c_1, if_neg c_2, if_pos c_4, if_pos c_5]) d_B_hasThings_30
        · skip
          refine lv_iconst (v := 1) hx hb d_B_hasThings_25 (by decide) ?_
          refine lv_goto (tgt := 30) hx hb d_B_hasThings_26 (by decide) ?_
          exact pm_ret hx hb hr hlk (by decide) (by rw [f_B_hasThings, if_neg c_1, if_neg c_2, if_pos c_4, if_neg c_5]) d_B_hasThings_30
