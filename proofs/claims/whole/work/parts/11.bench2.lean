def g_B_reaches (t : Int32) : Nat → Int32 → Int32
  | 0, _ => 0
  | n + 1, a => (if a < 0 then 0 else (if a = t then 1 else (if (f_B_interfaceAt a 0) = t then 1 else (if (f_B_interfaceAt a 1) = t then 1 else (g_B_reaches t n (f_B_classUp a))))))
def f_B_reaches (u t : Int32) : Int32 := g_B_reaches t 25 u
theorem z_g_B_reaches (t : Int32) : ∀ (n : Nat) (a : Int32), g_B_reaches t n a = 0 ∨ g_B_reaches t n a = 1 := by
  intro n
  induction n with
  | zero => intro a; exact Or.inl rfl
  | succ n ih =>
    intro a
    rw [g_B_reaches]
    repeat' split
    all_goals first | exact Or.inl rfl | exact Or.inr rfl | exact ih _
theorem z_B_reaches (u t : Int32) : f_B_reaches u t = 0 ∨ f_B_reaches u t = 1 := z_g_B_reaches t 25 u
set_option maxRecDepth 100000 in
theorem k_B_reaches : ck y_B_reaches b_B_reaches 4 (some .boolean) 2 (.static y_B_reaches) := ⟨tk_of (List.mem_of_getElem? (i := 519) rfl) rfl, tk_of (List.mem_of_getElem? (i := 518) (by decide +kernel)) rfl, tk_of (List.mem_of_getElem? (i := 44) (by decide +kernel)) rfl, by decide +kernel⟩
theorem j_B_89 : Cond.methodLink R_B 89 y_B_interfaceAt ∈ tk := tk_of (List.mem_of_getElem? (i := 520) (by decide +kernel)) rfl
theorem j_B_93 : Cond.methodLink R_B 93 y_B_classUp ∈ tk := tk_of (List.mem_of_getElem? (i := 521) (by decide +kernel)) rfl
set_option maxHeartbeats 4000000 in
set_option maxRecDepth 100000 in
theorem lp_B_reaches {p : Program} {l : Launch} {e : Env} {s : State} {m : MethodId} {args : Array Value} {below : List Frame} {meth : Method} {c : Code} {post : Int32 → Prop} (hx : p.tables.exec = Jvm.exec) (hb : c.code = b_B_reaches) (hF : CallFix p m c b_B_reaches 4 s args tk R_B) (hr : meth.sig.returnType = some .boolean) (hlk : meth.locks = false) (hN : Nst s) (u t : Int32) : ∀ (n k : Nat) (x a : Int32), k + n = 25 → x = nI k → post (g_B_reaches t n a) → ∀ ls : Array Slot, lv_has ls 4 [(3, .int x), (2, .int a), (0, .int u), (1, .int t)] →
    W p l e ({ frames := 3, cells := 0, slots := 0, locals := 61 }) s m args below meth c s.heap [] 0 0 (MQ below (vp_Si post) args s 0 0 (fun _ => False)) (F0 m 4 ls []) := by
  intro n
  induction n with
  | zero =>
    intro k x a hk ex hp ls hl
    have hle : 25 ≤ x := by rw [ex]; exact nI_le (a := 25) (b := k) (by omega) (by omega)
    refine lv_iload_n hx hb d_B_reaches_4 rfl (lv_at hl 0 rfl) ?_
    refine lv_bipush (v := 25) hx hb d_B_reaches_5 (by decide) ?_
    refine lv_icmp_ge (tgt := 50) hx hb d_B_reaches_7 (by decide) (fun c_0 => ?_) (fun c_0 => absurd hle c_0)
    refine lv_iconst (v := 0) hx hb d_B_reaches_50 (by decide) ?_
    exact pm_ret hx hb hr hlk (by decide) hp d_B_reaches_51
  | succ n ih =>
    intro k x a hk ex hp ls hl
    have hlt : ¬ 25 ≤ x := by rw [ex]; exact nI_ge (a := k) (b := 25) (by omega) (by omega)
    refine lv_iload_n hx hb d_B_reaches_4 rfl (lv_at hl 0 rfl) ?_
    refine lv_bipush (v := 25) hx hb d_B_reaches_5 (by decide) ?_
    refine lv_icmp_ge (tgt := 50) hx hb d_B_reaches_7 (by decide) (fun c_1 => ?_) (fun c_1 => ?_)
    · exact absurd c_1 hlt
    · skip
      refine lv_iload_n hx hb d_B_reaches_10 rfl (lv_at hl 1 rfl) ?_
      refine lv_if_lt (tgt := 50) hx hb d_B_reaches_11 (by decide) (fun c_2 => ?_) (fun c_2 => ?_)
      · skip
        refine lv_iconst (v := 0) hx hb d_B_reaches_50 (by decide) ?_
        exact pm_ret hx hb hr hlk (by decide) (by have h := hp; rw [g_B_reaches, if_pos c_2] at h; exact h) d_B_reaches_51
      · skip
        refine lv_iload_n hx hb d_B_reaches_14 rfl (lv_at hl 1 rfl) ?_
        refine lv_iload_n hx hb d_B_reaches_15 rfl (lv_at hl 3 rfl) ?_
        refine lv_icmp_eq (tgt := 37) hx hb d_B_reaches_16 (by decide) (fun c_3 => ?_) (fun c_3 => ?_)
        · skip
          refine lv_iconst (v := 1) hx hb d_B_reaches_37 (by decide) ?_
          exact pm_ret hx hb hr hlk (by decide) (by have h := hp; rw [g_B_reaches, if_neg c_2, if_pos c_3] at h; exact h) d_B_reaches_38
        · skip
          refine lv_iload_n hx hb d_B_reaches_19 rfl (lv_at hl 1 rfl) ?_
          refine lv_iconst (v := 0) hx hb d_B_reaches_20 (by decide) ?_
          refine pm_callE hF hN (c_B_interfaceAt l a 0) k_B_interfaceAt j_B_89 ⟨Nat.le_of_ble_eq_true rfl, Nat.le_of_ble_eq_true rfl⟩ rfl hl.1 (Nat.le_of_ble_eq_true rfl) d_B_reaches_21 ⟨Nat.le_refl _, Nat.le_refl _⟩ ?_
          refine lv_iload_n hx hb d_B_reaches_24 rfl (lv_at hl 3 rfl) ?_
          refine lv_icmp_eq (tgt := 37) hx hb d_B_reaches_25 (by decide) (fun c_5 => ?_) (fun c_5 => ?_)
          · skip
            refine lv_iconst (v := 1) hx hb d_B_reaches_37 (by decide) ?_
            exact pm_ret hx hb hr hlk (by decide) (by have h := hp; rw [g_B_reaches, if_neg c_2, if_neg c_3, if_pos c_5] at h; exact h) d_B_reaches_38
          · skip
            refine lv_iload_n hx hb d_B_reaches_28 rfl (lv_at hl 1 rfl) ?_
            refine lv_iconst (v := 1) hx hb d_B_reaches_29 (by decide) ?_
            refine pm_callE hF hN (c_B_interfaceAt l a 1) k_B_interfaceAt j_B_89 ⟨Nat.le_of_ble_eq_true rfl, Nat.le_of_ble_eq_true rfl⟩ rfl hl.1 (Nat.le_of_ble_eq_true rfl) d_B_reaches_30 ⟨Nat.le_refl _, Nat.le_refl _⟩ ?_
            refine lv_iload_n hx hb d_B_reaches_33 rfl (lv_at hl 3 rfl) ?_
            refine lv_icmp_ne (tgt := 39) hx hb d_B_reaches_34 (by decide) (fun c_7 => ?_) (fun c_7 => ?_)
            · skip
              refine lv_iload_n hx hb d_B_reaches_39 rfl (lv_at hl 1 rfl) ?_
              refine pm_callE hF hN (c_B_classUp l a) k_B_classUp j_B_93 ⟨Nat.le_of_ble_eq_true rfl, Nat.le_of_ble_eq_true rfl⟩ rfl hl.1 (Nat.le_of_ble_eq_true rfl) d_B_reaches_40 ⟨Nat.le_refl _, Nat.le_refl _⟩ ?_
              refine lv_istore_n (lv' := [(2, .int (f_B_classUp a)), (3, .int x), (0, .int u), (1, .int t)]) hx hb d_B_reaches_43 rfl hl (by decide) rfl (fun ls hl => ?_)
              refine lv_iinc (v := (x + 1)) (lv' := [(3, .int (x + 1)), (2, .int (f_B_classUp a)), (0, .int u), (1, .int t)]) hx hb d_B_reaches_44 hl (k := 1) rfl (by first | rfl | decide) (by decide) rfl (fun ls hl => ?_)
              refine lv_goto (tgt := 4) hx hb d_B_reaches_47 (by decide) ?_
              exact ih (k + 1) _ _ (by omega) (by rw [ex]; exact nI_1 k) (by have h := hp; rw [g_B_reaches, if_neg c_2, if_neg c_3, if_neg c_5, if_neg c_7] at h; exact h) _ hl
            · skip
              refine lv_iconst (v := 1) hx hb d_B_reaches_37 (by decide) ?_
              exact pm_ret hx hb hr hlk (by decide) (by have h := hp; rw [g_B_reaches, if_neg c_2, if_neg c_3, if_neg c_5, if_pos c_7] at h; exact h) d_B_reaches_38
set_option maxHeartbeats 4000000 in
set_option maxRecDepth 100000 in
theorem c_B_reaches (l : Launch) (u t : Int32) : pmI l y_B_reaches b_B_reaches 4 .boolean 3 61 [.int u, .int t] (fun r => r = f_B_reaches u t) := by
  refine pm_of (by decide) (Nat.le_of_ble_eq_true rfl) ?_
  intro p e s m below meth c ls hx hb hF hr hlk hN hl
  have hl : lv_has ls 4 [(0, .int u), (1, .int t)] := hl
  refine lv_iload_n hx hb d_B_reaches_0 rfl (lv_at hl 0 rfl) ?_
  refine lv_istore_n (lv' := [(2, .int u), (0, .int u), (1, .int t)]) hx hb d_B_reaches_1 rfl hl (by decide) rfl (fun ls hl => ?_)
  refine lv_iconst (v := 0) hx hb d_B_reaches_2 (by decide) ?_
  refine lv_istore_n (lv' := [(3, .int 0), (2, .int u), (0, .int u), (1, .int t)]) hx hb d_B_reaches_3 rfl hl (by decide) rfl (fun ls hl => ?_)
  exact lp_B_reaches (post := fun r => r = f_B_reaches u t) hx hb hF hr hlk hN u t 25 0 0 u rfl rfl rfl ls hl
def f_B_fits (u : Int32) (t : Int32) : Int32 := (if (f_B_isArray u) = 0 then (if t = 9 then (if (f_B_isPrimitive u) = 0 then 1 else 0) else (f_B_reaches u t)) else (if (f_B_isArray t) = 0 then (if t = 9 then (if (f_B_isPrimitive u) = 0 then 1 else 0) else (f_B_reaches u t)) else (if (f_B_isArray (u + (-40))) = 0 then (if (t + (-40)) = 9 then (if (f_B_isPrimitive (u + (-40))) = 0 then 1 else 0) else (f_B_reaches (u + (-40)) (t + (-40)))) else (if (f_B_isArray (t + (-40))) = 0 then (if (t + (-40)) = 9 then (if (f_B_isPrimitive (u + (-40))) = 0 then 1 else 0) else (f_B_reaches (u + (-40)) (t + (-40)))) else (if ((t + (-40)) + (-40)) = 9 then (if (f_B_isPrimitive ((u + (-40)) + (-40))) = 0 then 1 else 0) else (f_B_reaches ((u + (-40)) + (-40)) ((t + (-40)) + (-40))))))))
set_option maxRecDepth 100000 in
theorem z_B_fits (u : Int32) (t : Int32) : f_B_fits u t = 0 ∨ f_B_fits u t = 1 := by
  unfold f_B_fits
  repeat' first | with_reducible refine z_ite ?_ ?_ | with_reducible exact z_B_isArray _ | with_reducible exact z_B_isPrimitive _ | with_reducible exact z_B_reaches _ _ | with_reducible exact Or.inl rfl | with_reducible exact Or.inr rfl
set_option maxRecDepth 100000 in
theorem k_B_fits : ck y_B_fits b_B_fits 5 (some .boolean) 2 (.static y_B_fits) := ⟨tk_of (List.mem_of_getElem? (i := 515) rfl) rfl, tk_of (List.mem_of_getElem? (i := 514) (by decide +kernel)) rfl, tk_of (List.mem_of_getElem? (i := 44) (by decide +kernel)) rfl, by decide +kernel⟩
theorem j_B_85 : Cond.methodLink R_B 85 y_B_reaches ∈ tk := tk_of (List.mem_of_getElem? (i := 517) (by decide +kernel)) rfl
theorem j_B_82 : Cond.methodLink R_B 82 y_B_isPrimitive ∈ tk := tk_of (List.mem_of_getElem? (i := 516) (by decide +kernel)) rfl
set_option maxHeartbeats 4000000 in
set_option maxRecDepth 100000 in
theorem c_B_fits (l : Launch) (u : Int32) (t : Int32) : pmI l y_B_fits b_B_fits 5 .boolean 4 84 [.int u, .int t] (fun r => r = f_B_fits u t) := by
  refine pm_of (by decide) (Nat.le_of_ble_eq_true rfl) ?_
  intro p e s m below meth c ls hx hb hF hr hlk hN hl
  have hl : lv_has ls 5 [(0, .int u), (1, .int t)] := hl
  refine lv_iload_n hx hb d_B_fits_0 rfl (lv_at hl 0 rfl) ?_
  refine lv_istore_n (lv' := [(2, .int u), (0, .int u), (1, .int t)]) hx hb d_B_fits_1 rfl hl (by decide) rfl (fun ls hl => ?_)
  refine lv_iload_n hx hb d_B_fits_2 rfl (lv_at hl 2 rfl) ?_
  refine lv_istore_n (lv' := [(3, .int t), (2, .int u), (0, .int u), (1, .int t)]) hx hb d_B_fits_3 rfl hl (by decide) rfl (fun ls hl => ?_)
  refine lv_iconst (v := 0) hx hb d_B_fits_4 (by decide) ?_
  refine lv_istore (lv' := [(4, .int 0), (3, .int t), (2, .int u), (0, .int u), (1, .int t)]) hx hb d_B_fits_5 hl (by decide) rfl (fun ls hl => ?_)
  refine lv_iload hx hb d_B_fits_7 (lv_at hl 0 rfl) ?_
  refine lv_iconst (v := 2) hx hb d_B_fits_9 (by decide) ?_
  refine lv_icmp_ge (tgt := 39) hx hb d_B_fits_10 (by decide) (fun c_1 => ?_) (fun c_1 => ?_)
  · exact absurd c_1 (by decide)
  · skip
    refine lv_iload_n hx hb d_B_fits_13 rfl (lv_at hl 2 rfl) ?_
    refine pm_callE hF hN (c_B_isArray l u) k_B_isArray j_B_72 ⟨Nat.le_of_ble_eq_true rfl, Nat.le_of_ble_eq_true rfl⟩ rfl hl.1 (Nat.le_of_ble_eq_true rfl) d_B_fits_14 ⟨Nat.le_refl _, Nat.le_refl _⟩ ?_
    refine lv_if_eq (tgt := 39) hx hb d_B_fits_17 (by decide) (fun c_3 => ?_) (fun c_3 => ?_)
    · skip
      refine lv_iload_n hx hb d_B_fits_39 rfl (lv_at hl 1 rfl) ?_
      refine lv_bipush (v := 9) hx hb d_B_fits_40 (by decide) ?_
      refine lv_icmp_ne (tgt := 60) hx hb d_B_fits_42 (by decide) (fun c_4 => ?_) (fun c_4 => ?_)
      · skip
        refine lv_iload_n hx hb d_B_fits_60 rfl (lv_at hl 2 rfl) ?_
        refine lv_iload_n hx hb d_B_fits_61 rfl (lv_at hl 1 rfl) ?_
        refine pm_callE hF hN (c_B_reaches l u t) k_B_reaches j_B_85 ⟨Nat.le_of_ble_eq_true rfl, Nat.le_of_ble_eq_true rfl⟩ rfl hl.1 (Nat.le_of_ble_eq_true rfl) d_B_fits_62 ⟨Nat.le_refl _, Nat.le_refl _⟩ ?_
        exact pm_ret hx hb hr hlk (nar_z (z_B_reaches u t)) (by rw [f_B_fits, if_pos c_3, if_neg c_4]) d_B_fits_65
      · skip
        refine lv_iload_n hx hb d_B_fits_45 rfl (lv_at hl 2 rfl) ?_
        refine pm_callE hF hN (c_B_isPrimitive l u) k_B_isPrimitive j_B_82 ⟨Nat.le_of_ble_eq_true rfl, Nat.le_of_ble_eq_true rfl⟩ rfl hl.1 (Nat.le_of_ble_eq_true rfl) d_B_fits_46 ⟨Nat.le_refl _, Nat.le_refl _⟩ ?_
        refine lv_if_ne (tgt := 56) hx hb d_B_fits_49 (by decide) (fun c_7 => ?_) (fun c_7 => ?_)
        · skip
          refine lv_iconst (v := 0) hx hb d_B_fits_56 (by decide) ?_
          refine lv_goto (tgt := 65) hx hb d_B_fits_57 (by decide) ?_
          exact pm_ret hx hb hr hlk (by decide) (by rw [f_B_fits, if_pos c_3, if_pos c_4, if_neg c_7]) d_B_fits_65
        · skip
          refine lv_iconst (v := 1) hx hb d_B_fits_52 (by decide) ?_
          refine lv_goto (tgt := 65) hx hb d_B_fits_53 (by decide) ?_
          exact pm_ret hx hb hr hlk (by decide) (by rw [f_B_fits, if_pos c_3, if_pos c_4, if_pos c_7]) d_B_fits_65
    · skip
      refine lv_iload_n hx hb d_B_fits_20 rfl (lv_at hl 1 rfl) ?_
      refine pm_callE hF hN (c_B_isArray l t) k_B_isArray j_B_72 ⟨Nat.le_of_ble_eq_true rfl, Nat.le_of_ble_eq_true rfl⟩ rfl hl.1 (Nat.le_of_ble_eq_true rfl) d_B_fits_21 ⟨Nat.le_refl _, Nat.le_refl _⟩ ?_
      refine lv_if_eq (tgt := 39) hx hb d_B_fits_24 (by decide) (fun c_9 => ?_) (fun c_9 => ?_)
      · skip
        refine lv_iload_n hx hb d_B_fits_39 rfl (lv_at hl 1 rfl) ?_
        refine lv_bipush (v := 9) hx hb d_B_fits_40 (by decide) ?_
        refine lv_icmp_ne (tgt := 60) hx hb d_B_fits_42 (by decide) (fun c_10 => ?_) (fun c_10 => ?_)
        · skip
          refine lv_iload_n hx hb d_B_fits_60 rfl (lv_at hl 2 rfl) ?_
          refine lv_iload_n hx hb d_B_fits_61 rfl (lv_at hl 1 rfl) ?_
          refine pm_callE hF hN (c_B_reaches l u t) k_B_reaches j_B_85 ⟨Nat.le_of_ble_eq_true rfl, Nat.le_of_ble_eq_true rfl⟩ rfl hl.1 (Nat.le_of_ble_eq_true rfl) d_B_fits_62 ⟨Nat.le_refl _, Nat.le_refl _⟩ ?_
          exact pm_ret hx hb hr hlk (nar_z (z_B_reaches u t)) (by rw [f_B_fits, if_neg c_3, if_pos c_9, if_neg c_10]) d_B_fits_65
        · skip
          refine lv_iload_n hx hb d_B_fits_45 rfl (lv_at hl 2 rfl) ?_
          refine pm_callE hF hN (c_B_isPrimitive l u) k_B_isPrimitive j_B_82 ⟨Nat.le_of_ble_eq_true rfl, Nat.le_of_ble_eq_true rfl⟩ rfl hl.1 (Nat.le_of_ble_eq_true rfl) d_B_fits_46 ⟨Nat.le_refl _, Nat.le_refl _⟩ ?_
          refine lv_if_ne (tgt := 56) hx hb d_B_fits_49 (by decide) (fun c_13 => ?_) (fun c_13 => ?_)
          · skip
            refine lv_iconst (v := 0) hx hb d_B_fits_56 (by decide) ?_
            refine lv_goto (tgt := 65) hx hb d_B_fits_57 (by decide) ?_
            exact pm_ret hx hb hr hlk (by decide) (by rw [f_B_fits, if_neg c_3, if_pos c_9, if_pos c_10, if_neg c_13]) d_B_fits_65
          · skip
            refine lv_iconst (v := 1) hx hb d_B_fits_52 (by decide) ?_
            refine lv_goto (tgt := 65) hx hb d_B_fits_53 (by decide) ?_
            exact pm_ret hx hb hr hlk (by decide) (by rw [f_B_fits, if_neg c_3, if_pos c_9, if_pos c_10, if_pos c_13]) d_B_fits_65
      · skip
        refine lv_iinc (v := (u + (-40))) (lv' := [(2, .int (u + (-40))), (4, .int 0), (3, .int t), (0, .int u), (1, .int t)]) hx hb d_B_fits_27 hl (k := 2) rfl (by first | rfl | decide) (by decide) rfl (fun ls hl => ?_)
        refine lv_iinc (v := (t + (-40))) (lv' := [(3, .int (t + (-40))), (2, .int (u + (-40))), (4, .int 0), (0, .int u), (1, .int t)]) hx hb d_B_fits_30 hl (k := 2) rfl (by first | rfl | decide) (by decide) rfl (fun ls hl => ?_)
        refine lv_iinc (v := 1) (lv' := [(4, .int 1), (3, .int (t + (-40))), (2, .int (u + (-40))), (0, .int u), (1, .int t)]) hx hb d_B_fits_33 hl (k := 2) rfl (by first | rfl | decide) (by decide) rfl (fun ls hl => ?_)
        refine lv_goto (tgt := 7) hx hb d_B_fits_36 (by decide) ?_
        refine lv_iload hx hb d_B_fits_7 (lv_at hl 0 rfl) ?_
        refine lv_iconst (v := 2) hx hb d_B_fits_9 (by decide) ?_
        refine lv_icmp_ge (tgt := 39) hx hb d_B_fits_10 (by decide) (fun c_14 => ?_) (fun c_14 => ?_)
        · exact absurd c_14 (by decide)
        · skip
          refine lv_iload_n hx hb d_B_fits_13 rfl (lv_at hl 2 rfl) ?_
          refine pm_callE hF hN (c_B_isArray l (u + (-40))) k_B_isArray j_B_72 ⟨Nat.le_of_ble_eq_true rfl, Nat.le_of_ble_eq_true rfl⟩ rfl hl.1 (Nat.le_of_ble_eq_true rfl) d_B_fits_14 ⟨Nat.le_refl _, Nat.le_refl _⟩ ?_
          refine lv_if_eq (tgt := 39) hx hb d_B_fits_17 (by decide) (fun c_16 => ?_) (fun c_16 => ?_)
          · skip
            refine lv_iload_n hx hb d_B_fits_39 rfl (lv_at hl 1 rfl) ?_
            refine lv_bipush (v := 9) hx hb d_B_fits_40 (by decide) ?_
            refine lv_icmp_ne (tgt := 60) hx hb d_B_fits_42 (by decide) (fun c_17 => ?_) (fun c_17 => ?_)
            · skip
              refine lv_iload_n hx hb d_B_fits_60 rfl (lv_at hl 2 rfl) ?_
              refine lv_iload_n hx hb d_B_fits_61 rfl (lv_at hl 1 rfl) ?_
              refine pm_callE hF hN (c_B_reaches l (u + (-40)) (t + (-40))) k_B_reaches j_B_85 ⟨Nat.le_of_ble_eq_true rfl, Nat.le_of_ble_eq_true rfl⟩ rfl hl.1 (Nat.le_of_ble_eq_true rfl) d_B_fits_62 ⟨Nat.le_refl _, Nat.le_refl _⟩ ?_
              exact pm_ret hx hb hr hlk (nar_z (z_B_reaches (u + (-40)) (t + (-40)))) (by rw [f_B_fits, if_neg c_3, if_neg c_9, if_pos c_16, if_neg c_17]) d_B_fits_65
            · skip
              refine lv_iload_n hx hb d_B_fits_45 rfl (lv_at hl 2 rfl) ?_
              refine pm_callE hF hN (c_B_isPrimitive l (u + (-40))) k_B_isPrimitive j_B_82 ⟨Nat.le_of_ble_eq_true rfl, Nat.le_of_ble_eq_true rfl⟩ rfl hl.1 (Nat.le_of_ble_eq_true rfl) d_B_fits_46 ⟨Nat.le_refl _, Nat.le_refl _⟩ ?_
              refine lv_if_ne (tgt := 56) hx hb d_B_fits_49 (by decide) (fun c_20 => ?_) (fun c_20 => ?_)
              · skip
                refine lv_iconst (v := 0) hx hb d_B_fits_56 (by decide) ?_
                refine lv_goto (tgt := 65) hx hb d_B_fits_57 (by decide) ?_
                exact pm_ret hx hb hr hlk (by decide) (by rw [f_B_fits, if_neg c_3, if_neg c_9, if_pos c_16, if_pos c_17, if_neg c_20]) d_B_fits_65
              · skip
                refine lv_iconst (v := 1) hx hb d_B_fits_52 (by decide) ?_
                refine lv_goto (tgt := 65) hx hb d_B_fits_53 (by decide) ?_
                exact pm_ret hx hb hr hlk (by decide) (by rw [f_B_fits, if_neg c_3, if_neg c_9, if_pos c_16, if_pos c_17, if_pos c_20]) d_B_fits_65
          · skip
            refine lv_iload_n hx hb d_B_fits_20 rfl (lv_at hl 1 rfl) ?_
            refine pm_callE hF hN (c_B_isArray l (t + (-40))) k_B_isArray j_B_72 ⟨Nat.le_of_ble_eq_true rfl, Nat.le_of_ble_eq_true rfl⟩ rfl hl.1 (Nat.le_of_ble_eq_true rfl) d_B_fits_21 ⟨Nat.le_refl _, Nat.le_refl _⟩ ?_
            refine lv_if_eq (tgt := 39) hx hb d_B_fits_24 (by decide) (fun c_22 => ?_) (fun c_22 => ?_)
            · skip
              refine lv_iload_n hx hb d_B_fits_39 rfl (lv_at hl 1 rfl) ?_
              refine lv_bipush (v := 9) hx hb d_B_fits_40 (by decide) ?_
              refine lv_icmp_ne (tgt := 60) hx hb d_B_fits_42 (by decide) (fun c_23 => ?_) (fun c_23 => ?_)
              · skip
                refine lv_iload_n hx hb d_B_fits_60 rfl (lv_at hl 2 rfl) ?_
                refine lv_iload_n hx hb d_B_fits_61 rfl (lv_at hl 1 rfl) ?_
                refine pm_callE hF hN (c_B_reaches l (u + (-40)) (t + (-40))) k_B_reaches j_B_85 ⟨Nat.le_of_ble_eq_true rfl, Nat.le_of_ble_eq_true rfl⟩ rfl hl.1 (Nat.le_of_ble_eq_true rfl) d_B_fits_62 ⟨Nat.le_refl _, Nat.le_refl _⟩ ?_
                exact pm_ret hx hb hr hlk (nar_z (z_B_reaches (u + (-40)) (t + (-40)))) (by rw [f_B_fits, if_neg c_3, if_neg c_9, if_neg c_16, if_pos c_22, if_neg c_23]) d_B_fits_65
              · skip
                refine lv_iload_n hx hb d_B_fits_45 rfl (lv_at hl 2 rfl) ?_
                refine pm_callE hF hN (c_B_isPrimitive l (u + (-40))) k_B_isPrimitive j_B_82 ⟨Nat.le_of_ble_eq_true rfl, Nat.le_of_ble_eq_true rfl⟩ rfl hl.1 (Nat.le_of_ble_eq_true rfl) d_B_fits_46 ⟨Nat.le_refl _, Nat.le_refl _⟩ ?_
                refine lv_if_ne (tgt := 56) hx hb d_B_fits_49 (by decide) (fun c_26 => ?_) (fun c_26 => ?_)
                · skip
                  refine lv_iconst (v := 0) hx hb d_B_fits_56 (by decide) ?_
                  refine lv_goto (tgt := 65) hx hb d_B_fits_57 (by decide) ?_
                  exact pm_ret hx hb hr hlk (by decide) (by rw [f_B_fits, if_neg c_3, if_neg c_9, if_neg c_16, if_pos c_22, if_pos c_23, if_neg c_26]) d_B_fits_65
                · skip
                  refine lv_iconst (v := 1) hx hb d_B_fits_52 (by decide) ?_
                  refine lv_goto (tgt := 65) hx hb d_B_fits_53 (by decide) ?_
                  exact pm_ret hx hb hr hlk (by decide) (by rw [f_B_fits, if_neg c_3, if_neg c_9, if_neg c_16, if_pos c_22, if_pos c_23, if_pos c_26]) d_B_fits_65
            · skip
              refine lv_iinc (v := ((u + (-40)) + (-40))) (lv' := [(2, .int ((u + (-40)) + (-40))), (4, .int 1), (3, .int (t + (-40))), (0, .int u), (1, .int t)]) hx hb d_B_fits_27 hl (k := 2) rfl (by first | rfl | decide) (by decide) rfl (fun ls hl => ?_)
              refine lv_iinc (v := ((t + (-40)) + (-40))) (lv' := [(3, .int ((t + (-40)) + (-40))), (2, .int ((u + (-40)) + (-40))), (4, .int 1), (0, .int u), (1, .int t)]) hx hb d_B_fits_30 hl (k := 2) rfl (by first | rfl | decide) (by decide) rfl (fun ls hl => ?_)
              refine lv_iinc (v := 2) (lv' := [(4, .int 2), (3, .int ((t + (-40)) + (-40))), (2, .int ((u + (-40)) + (-40))), (0, .int u), (1, .int t)]) hx hb d_B_fits_33 hl (k := 2) rfl (by first | rfl | decide) (by decide) rfl (fun ls hl => ?_)
              refine lv_goto (tgt := 7) hx hb d_B_fits_36 (by decide) ?_
              refine lv_iload hx hb d_B_fits_7 (lv_at hl 0 rfl) ?_
              refine lv_iconst (v := 2) hx hb d_B_fits_9 (by decide) ?_
              refine lv_icmp_ge (tgt := 39) hx hb d_B_fits_10 (by decide) (fun c_27 => ?_) (fun c_27 => ?_)
              · skip
                refine lv_iload_n hx hb d_B_fits_39 rfl (lv_at hl 1 rfl) ?_
                refine lv_bipush (v := 9) hx hb d_B_fits_40 (by decide) ?_
                refine lv_icmp_ne (tgt := 60) hx hb d_B_fits_42 (by decide) (fun c_28 => ?_) (fun c_28 => ?_)
                · skip
                  refine lv_iload_n hx hb d_B_fits_60 rfl (lv_at hl 2 rfl) ?_
                  refine lv_iload_n hx hb d_B_fits_61 rfl (lv_at hl 1 rfl) ?_
                  refine pm_callE hF hN (c_B_reaches l ((u + (-40)) + (-40)) ((t + (-40)) + (-40))) k_B_reaches j_B_85 ⟨Nat.le_of_ble_eq_true rfl, Nat.le_of_ble_eq_true rfl⟩ rfl hl.1 (Nat.le_of_ble_eq_true rfl) d_B_fits_62 ⟨Nat.le_refl _, Nat.le_refl _⟩ ?_
                  exact pm_ret hx hb hr hlk (nar_z (z_B_reaches ((u + (-40)) + (-40)) ((t + (-40)) + (-40)))) (by rw [f_B_fits, if_neg c_3, if_neg c_9, if_neg c_16, if_neg c_22, if_neg c_28]) d_B_fits_65
                · skip
                  refine lv_iload_n hx hb d_B_fits_45 rfl (lv_at hl 2 rfl) ?_
                  refine pm_callE hF hN (c_B_isPrimitive l ((u + (-40)) + (-40))) k_B_isPrimitive j_B_82 ⟨Nat.le_of_ble_eq_true rfl, Nat.le_of_ble_eq_true rfl⟩ rfl hl.1 (Nat.le_of_ble_eq_true rfl) d_B_fits_46 ⟨Nat.le_refl _, Nat.le_refl _⟩ ?_
                  refine lv_if_ne (tgt := 56) hx hb d_B_fits_49 (by decide) (fun c_31 => ?_) (fun c_31 => ?_)
                  · skip
                    refine lv_iconst (v := 0) hx hb d_B_fits_56 (by decide) ?_
                    refine lv_goto (tgt := 65) hx hb d_B_fits_57 (by decide) ?_
                    exact pm_ret hx hb hr hlk (by decide) (by rw [f_B_fits, if_neg c_3, if_neg c_9, if_neg c_16, if_neg c_22, if_pos c_28, if_neg c_31]) d_B_fits_65
                  · skip
                    refine lv_iconst (v := 1) hx hb d_B_fits_52 (by decide) ?_
                    refine lv_goto (tgt := 65) hx hb d_B_fits_53 (by decide) ?_
                    exact pm_ret hx hb hr hlk (by decide) (by rw [f_B_fits, if_neg c_3, if_neg c_9, if_neg c_16, if_neg c_22, if_pos c_28, if_pos c_31]) d_B_fits_65
              · exact absurd c_27 (by decide)
