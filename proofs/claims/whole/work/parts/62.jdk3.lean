/-- a builder's text: the bytes a hold the letters xs -/
def tx (xs : List Nat) (cp : Nat) (a : Nat → Int32) : Prop := xs.length ≤ cp ∧ 16 ≤ cp ∧ cp ≤ 142 ∧ sb_Fit a ∧ (∀ x ∈ xs, x < 128) ∧ ∀ i, i < xs.length → a i = nI (xs.getD i 0)
theorem j_nw {q2 : Nat} : ∀ cA : ClassId, vp_cell cA (q2, .inl (fun _ => 0)) = arrV cA q2 (fun _ => defaultValue .byte) := fun _ => rfl
theorem j_sub_le {q cp : Nat} (h : q ≤ cp) (hc : cp ≤ 1000) : nI q - nI cp ≤ 0 := by
  rw [Int32.le_iff_toInt_le, pk_sub_toInt (by omega) (by omega), Int32.toInt_zero]; omega
theorem j_sub_gt {q cp : Nat} (h : cp < q) (hc : q ≤ 1000) : ¬ nI q - nI cp ≤ 0 := by
  rw [Int32.le_iff_toInt_le, pk_sub_toInt (by omega) (by omega), Int32.toInt_zero]; omega
theorem j_min {q cp : Nat} (h : cp < q) (hq : q ≤ 3000) : (if nI q < nI cp then nI q else nI cp) = nI cp := if_neg (nI_nlt (by omega) (by omega))
theorem j_b7 : ∀ c : Nat, c < 128 → (nI c).toInt8.toInt32 = nI c ∧ vp_nar .byte (nI c) = nI c ∧ fits .byte (.int (nI c)) = true ∧ ¬ f_L1_canEncode_C (nI c) = 0 ∧ (nI c &&& 255) = nI c ∧ ((nI c).toUInt32 % 65536).toInt32 = nI c := by decide +kernel
theorem tx_one {xs : List Nat} {cp cp' : Nat} {a f : Nat → Int32} {ch : Nat} (h : tx xs cp a) (hc : ch < 128) (hl : xs.length + 1 ≤ cp') (h16 : 16 ≤ cp') (h142 : cp' ≤ 142) (hf : sb_Fit f) (hk : ∀ j, j < cp → f j = a j) : tx (xs ++ [ch]) cp' (upd f (nI xs.length : Int32).toNatClampNeg (vp_nar .byte (nI ch))) := by
  obtain ⟨h1, h2, h3, h4, h5, h6⟩ := h
  rw [(j_b7 ch hc).2.1, nI_clamp (by omega)]
  refine ⟨by rw [List.length_append]; exact hl, h16, h142, sb_fitU hf (j_b7 ch hc).2.2.1, fun x hx => ?_, fun i hi => ?_⟩
  · rcases List.mem_append.mp hx with q | q
    · exact h5 x q
    · rw [List.mem_singleton.mp q]; exact hc
  · rw [List.length_append] at hi
    have hi2 : i < xs.length + 1 := hi
    by_cases e : i = xs.length
    · subst e
      rw [pk_us]
      simp
    · rw [pk_un e, hk i (by omega), h6 i (by omega)]
      simp [List.getD, List.getElem?_append_left (show i < xs.length by omega)]
set_option maxRecDepth 100000 in
theorem k_Ar_copyOf : ck y_Ar_copyOf b_Ar_copyOf 3 (some (.array .byte)) 2 (.static y_Ar_copyOf) := ⟨tk_of (List.mem_of_getElem? (i := 174) rfl) rfl, tk_of (List.mem_of_getElem? (i := 173) (by decide +kernel)) rfl, tk_of (List.mem_of_getElem? (i := 47) (by decide +kernel)) rfl, by decide +kernel⟩
theorem jm_Ar_304 : Cond.methodLink R_Ar 304 Lib.Math.min.name ∈ tk := tk_of (List.mem_of_getElem? (i := 182) (by decide +kernel)) rfl
theorem jms_min : Cond.static Lib.Math.min.name ∈ tk := tk_of (List.mem_of_getElem? (i := 183) (by decide +kernel)) rfl
set_option maxRecDepth 100000 in
theorem jmc_min : Cond.code Lib.Math.min.name Lib.Math.min.code 2 (some .int) ∈ tk := tk_of (List.mem_of_getElem? (i := 184) rfl) rfl
theorem jm_Ar_150 : Cond.methodLink R_Ar 150 arraycopyName ∈ tk := tk_of (List.mem_of_getElem? (i := 185) (by decide +kernel)) rfl
theorem jac_n : Cond.native arraycopyName ∈ tk := tk_of (List.mem_of_getElem? (i := 187) (by decide +kernel)) rfl
theorem jac_s : Cond.static arraycopyName ∈ tk := tk_of (List.mem_of_getElem? (i := 186) (by decide +kernel)) rfl
theorem jac_i : Cond.initialized "java/lang/System" ∈ tk := tk_of (List.mem_of_getElem? (i := 48) (by decide +kernel)) rfl
set_option maxHeartbeats 4000000 in
set_option maxRecDepth 100000 in
theorem c_Ar_copyOf (g : gT) (l : Launch) (sz : Nat) (v cp q2 : Nat) (a : Nat → Int32) (hq : cp < q2) (hq2 : q2 ≤ 3000) (hfit : sb_Fit a) : Mg g l y_Ar_copyOf b_Ar_copyOf 3 (some (.array .byte)) 1 60 1 q2 [.ref v, .int (nI q2)] [(v, .inl (gB g, cp, .inl a))] sz (qR g (fun r w1 => ∃ f : Nat → Int32, w1 = [(v, .inl (gB g, cp, .inl a)), (r, .inl (gB g, q2, .inl f))] ∧ sb_Fit f ∧ ∀ j, j < cp → f j = a j)) := by
  refine mg_of (by decide) (Nat.le_of_ble_eq_true rfl) ?_
  intro p e s m below meth c ls A hx hb hF hr hlk hnm hA G hP hD hS hl
  have hK := G.2.1
  have hN := G.1
  have hl : lv_has ls 3 [(0, .ref v), (1, .int (nI q2))] := hl
  refine lv_iload_n hx hb d_Ar_copyOf_0 rfl (lv_at hl 1 rfl) ?_
  refine lv_aload_n hx hb d_Ar_copyOf_1 rfl (lv_at hl 0 rfl) ?_
  refine va_alen hx hb hK hP 0 1 rfl rfl (v := nI cp) rfl d_Ar_copyOf_2 ?_
  refine lv_icmp_ne (tgt := 14) hx hb d_Ar_copyOf_3 (by decide) (fun c_1 => ?_) (fun c_1 => absurd ((nI_eq (by omega) (by omega)).mp c_1) (by omega))
  refine lv_iload_n hx hb d_Ar_copyOf_14 rfl (lv_at hl 1 rfl) ?_
  refine va_newa (atype := .byte) (D := gD g) (cl := classes) (tys := gTy g) hx hb (hF.2.2.2.2 _ ac_byte) (ty := .byte) rfl hK hP hD hS hA (N' := q2) (a0 := (q2, .inl (fun _ => 0))) j_nw (nI_pos (by omega)) (nI_clamp (by omega)) (by show q2 * 1 ≤ _; omega) (by first | exact Nat.le_of_ble_eq_true rfl | (dsimp only; omega) | omega) (by first | exact Nat.le_of_ble_eq_true rfl | (dsimp only; omega) | omega) d_Ar_copyOf_15 (fun q_2 cA H hK2 hP hD hS => ?_)
  obtain rfl := cA_byte hK2
  have hP : va_P (gD g) classes [(v, .inl (gB g, cp, .inl a)), (q_2, .inl (gB g, q2, .inl (fun _ => 0)))] H := hP
  have hD : va_D A [(v, .inl (gB g, cp, .inl a)), (q_2, .inl (gB g, q2, .inl (fun _ => 0)))] := hD
  refine lv_astore_n (lv' := [(2, .ref q_2), (0, .ref v), (1, .int (nI q2))]) hx hb d_Ar_copyOf_17 rfl hl (by decide) rfl (fun ls hl => ?_)
  refine lv_aload_n hx hb d_Ar_copyOf_18 rfl (lv_at hl 1 rfl) ?_
  refine lv_iconst (v := 0) hx hb d_Ar_copyOf_19 (by decide) ?_
  refine lv_aload_n hx hb d_Ar_copyOf_20 rfl (lv_at hl 0 rfl) ?_
  refine lv_iconst (v := 0) hx hb d_Ar_copyOf_21 (by decide) ?_
  refine lv_aload_n hx hb d_Ar_copyOf_22 rfl (lv_at hl 1 rfl) ?_
  refine va_alen hx hb hK hP 0 1 rfl rfl (v := nI cp) rfl d_Ar_copyOf_23 ?_
  refine lv_iload_n hx hb d_Ar_copyOf_24 rfl (lv_at hl 2 rfl) ?_
  refine va_mmin hx hb (hF.2.2.1.trans hl.1.symm) hF.2.2.2.1 (hF.2.2.2.2 _ jm_Ar_304) (hF.2.2.2.2 _ jms_min) (hF.2.2.2.2 _ jmi) (hF.2.2.2.2 _ jmc_min) (Nat.le_of_ble_eq_true rfl) (Nat.le_of_ble_eq_true rfl) (by first | exact Nat.le_of_ble_eq_true rfl | (dsimp only; omega) | omega) (by first | exact Nat.le_of_ble_eq_true rfl | (dsimp only; omega) | omega) d_Ar_copyOf_25 ?_
  refine tp_i (show (if (nI q2) < (nI cp) then (nI q2) else (nI cp)) = (nI cp) from j_min hq hq2) ?_
  refine va_copyi hx hb (hF.2.2.1.trans hl.1.symm) hF.2.2.2.1 (hF.2.2.2.2 _ jm_Ar_150) (hF.2.2.2.2 _ jac_n) (hF.2.2.2.2 _ jac_s) (hF.2.2.2.2 _ jac_i) hK hP hD hS 0 1 1 1 rfl rfl rfl rfl rfl (by decide) (by decide) (nI_pos (by omega)) (by rw [sb_cl0, nI_clamp (by omega)]; omega) (by rw [sb_cl0, nI_clamp (by omega)]; omega) (fun i _ => hfit _) (Nat.le_of_ble_eq_true rfl) (Nat.le_of_ble_eq_true rfl) d_Ar_copyOf_28 (fun H locs hP hD hS => ?_)
  have hP : va_P (gD g) classes [(v, .inl (gB g, cp, .inl a)), (q_2, .inl (gB g, q2, .inl (va_cpy a (fun _ => 0) (0 : Int32).toNatClampNeg (0 : Int32).toNatClampNeg (nI cp).toNatClampNeg)))] H := hP
  have hD : va_D A [(v, .inl (gB g, cp, .inl a)), (q_2, .inl (gB g, q2, .inl (va_cpy a (fun _ => 0) (0 : Int32).toNatClampNeg (0 : Int32).toNatClampNeg (nI cp).toNatClampNeg)))] := hD
  refine lv_aload_n hx hb d_Ar_copyOf_31 rfl (lv_at hl 0 rfl) ?_
  exact ret_r hx hb hr (Or.inr ⟨_, rfl⟩) hlk hP hD hS ⟨_, rfl, sb_fitC hfit sb_fit0, fun j hj => by rw [sb_cl0, nI_clamp (by omega)]; exact sb_cpy0 hj⟩ (by first | exact Nat.le_of_ble_eq_true rfl | (dsimp only; omega) | omega) (by first | exact Nat.le_of_ble_eq_true rfl | (dsimp only; omega) | omega) d_Ar_copyOf_32
set_option maxRecDepth 100000 in
theorem k_A_ensureCapacityInternal : ck y_A_ensureCapacityInternal b_A_ensureCapacityInternal 3 (none) 1 (.instanceMethod y_A_ensureCapacityInternal) := ⟨tk_of (List.mem_of_getElem? (i := 156) rfl) rfl, tk_of (List.mem_of_getElem? (i := 155) (by decide +kernel)) rfl, tk_of (List.mem_of_getElem? (i := 38) (by decide +kernel)) rfl, by decide +kernel⟩
theorem j_A_104 : Cond.methodLink R_A 104 y_A_newCapacity ∈ tk := tk_of (List.mem_of_getElem? (i := 157) (by decide +kernel)) rfl
theorem sm_A_newCapacity : Cond.sameMethod R_A R_A "newCapacity" "(I)I" ∈ tk := tk_of (List.mem_of_getElem? (i := 908) (by decide +kernel)) rfl
theorem se_SB_A_newCapacity : Cond.selects R_SB y_A_newCapacity y_A_newCapacity ∈ tk := tk_x (List.mem_of_getElem? (i := 1) rfl) rfl
theorem j_A_108 : Cond.methodLink R_A 108 y_Ar_copyOf ∈ tk := tk_of (List.mem_of_getElem? (i := 172) (by decide +kernel)) rfl
set_option maxHeartbeats 4000000 in
set_option maxRecDepth 100000 in
theorem c_A_ensureCapacityInternal (g : gT) (l : Launch) (sz : Nat) (b v n cp : Nat) (ml : Int32) (a : Nat → Int32) (q : Nat) (hc : cp ≤ 1000) (hq2 : q ≤ 1000) (hfit : sb_Fit a) : Mg g l y_A_ensureCapacityInternal b_A_ensureCapacityInternal 3 (none) 3 82 (gc q cp) (gs q cp) [.ref b, .int (nI q)] [(b, .inr (3, [.ref v, .int 0, .int ml, .int (nI n)])), (v, .inl (gB g, cp, .inl a))] sz (qV g (fun w1 => ∃ (v' : Nat) (f : Nat → Int32), w1 = [(b, .inr (3, [.ref v', .int 0, .int ml, .int (nI n)])), (v', .inl (gB g, (sb_cap q cp), .inl f))] ∧ sb_Fit f ∧ ∀ j, j < cp → f j = a j)) := by
  refine mg_of (by decide) (Nat.le_of_ble_eq_true rfl) ?_
  intro p e s m below meth c ls A hx hb hF hr hlk hnm hA G hP hD hS hl
  have hK := G.2.1
  have hN := G.1
  have hl : lv_has ls 3 [(0, .ref b), (1, .int (nI q))] := hl
  refine lv_aload_n hx hb d_A_ensureCapacityInternal_0 rfl (lv_at hl 0 rfl) ?_
  refine va_get (D := gD g) (ci := 3) (v := .ref v) (C := R_SB) (T := F_SB) (N := 4) hx hb hF.2.2.2.2 in_SB hF.2.2.2.1 hK hP 0 rfl rfl 0 (by decide) (hF.2.2.2.2 _ fl_A_15) (fun _ h9 => h9) rfl d_A_ensureCapacityInternal_1 ?_
  refine va_alen hx hb hK hP 1 1 rfl rfl (v := nI cp) rfl d_A_ensureCapacityInternal_4 ?_
  refine lv_aload_n hx hb d_A_ensureCapacityInternal_5 rfl (lv_at hl 0 rfl) ?_
  refine va_get (D := gD g) (ci := 3) (v := .int 0) (C := R_SB) (T := F_SB) (N := 4) hx hb hF.2.2.2.2 in_SB hF.2.2.2.1 hK hP 0 rfl rfl 1 (by decide) (hF.2.2.2.2 _ fl_A_22) (fun _ h9 => h9) rfl d_A_ensureCapacityInternal_6 ?_
  refine lv_ishr hx hb d_A_ensureCapacityInternal_9 ?_
  refine tp_i (sb_shr0 _) ?_
  refine lv_istore_n (lv' := [(2, .int (nI cp)), (0, .ref b), (1, .int (nI q))]) hx hb d_A_ensureCapacityInternal_10 rfl hl (by decide) rfl (fun ls hl => ?_)
  refine lv_iload_n hx hb d_A_ensureCapacityInternal_11 rfl (lv_at hl 2 rfl) ?_
  refine lv_iload_n hx hb d_A_ensureCapacityInternal_12 rfl (lv_at hl 0 rfl) ?_
  refine lv_isub hx hb d_A_ensureCapacityInternal_13 ?_
  by_cases hq0 : q ≤ cp
  · refine lv_if_le (tgt := 38) hx hb d_A_ensureCapacityInternal_14 (by decide) (fun _ => ?_) (fun z => absurd (j_sub_le hq0 (by omega)) z)
    exact ret_v hx hb hr hlk hP hD hS ⟨v, a, by rw [show sb_cap q cp = cp from if_pos hq0], hfit, fun _ _ => rfl⟩ (Nat.zero_le _) (Nat.zero_le _) d_A_ensureCapacityInternal_38
  have hq : cp < q := by omega
  have hgc : gc q cp = 1 := if_neg hq0
  have hgs : gs q cp = sb_cap q cp := if_neg hq0
  have hcg := sb_cap_ge q cp
  have hcg1 : cp < sb_cap q cp := by omega
  have hcl : sb_cap q cp ≤ 3000 := by unfold sb_cap; split <;> (try split) <;> omega
  refine lv_if_le (tgt := 38) hx hb d_A_ensureCapacityInternal_14 (by decide) (fun z => absurd z (j_sub_gt hq (by omega))) (fun _ => ?_)
  refine lv_aload_n hx hb d_A_ensureCapacityInternal_17 rfl (lv_at hl 1 rfl) ?_
  refine lv_aload_n hx hb d_A_ensureCapacityInternal_18 rfl (lv_at hl 1 rfl) ?_
  refine va_get (D := gD g) (ci := 3) (v := .ref v) (C := R_SB) (T := F_SB) (N := 4) hx hb hF.2.2.2.2 in_SB hF.2.2.2.1 hK hP 0 rfl rfl 0 (by decide) (hF.2.2.2.2 _ fl_A_15) (fun _ h9 => h9) rfl d_A_ensureCapacityInternal_19 ?_
  refine lv_aload_n hx hb d_A_ensureCapacityInternal_22 rfl (lv_at hl 1 rfl) ?_
  refine lv_iload_n hx hb d_A_ensureCapacityInternal_23 rfl (lv_at hl 2 rfl) ?_
  refine go_i (wr := []) (run_U (C := R_SB) hF (c_A_newCapacity g l _ b v n cp ml a q hq hq2) k_A_newCapacity j_A_104 sm_A_newCapacity se_SB_A_newCapacity (va_recv hK hP (ci := 3) (q0 := 0) rfl rfl) (cw_down G hP hD hS hA [0, 1] rfl rfl) ⟨Nat.le_of_ble_eq_true rfl, Nat.le_of_ble_eq_true rfl⟩ rfl hl.1 (Nat.le_of_ble_eq_true rfl) d_A_ensureCapacityInternal_24 ⟨(by first | exact Nat.le_of_ble_eq_true rfl | (dsimp only; omega) | omega), (by first | exact Nat.le_of_ble_eq_true rfl | (dsimp only; omega) | omega)⟩) hP hD hS hA [0, 1] [] rfl rfl rfl (by decide) (fun r_1 w1 H locs hp hP hD hS => ?_)
  obtain ⟨rfl, rfl⟩ := hp
  have hP : va_P (gD g) classes [(b, .inr (3, [.ref v, .int 0, .int ml, .int (nI n)])), (v, .inl (gB g, cp, .inl a))] H := hP
  have hD : va_D A [(b, .inr (3, [.ref v, .int 0, .int ml, .int (nI n)])), (v, .inl (gB g, cp, .inl a))] := hD
  refine lv_aload_n hx hb d_A_ensureCapacityInternal_27 rfl (lv_at hl 1 rfl) ?_
  refine va_get (D := gD g) (ci := 3) (v := .int 0) (C := R_SB) (T := F_SB) (N := 4) hx hb hF.2.2.2.2 in_SB hF.2.2.2.1 hK hP 0 rfl rfl 1 (by decide) (hF.2.2.2.2 _ fl_A_22) (fun _ h9 => h9) rfl d_A_ensureCapacityInternal_28 ?_
  refine lv_ishl hx hb d_A_ensureCapacityInternal_31 ?_
  refine tp_i (sb_shl0 _) ?_
  refine go_r (wr := [(b, .inr (3, [.ref v, .int 0, .int ml, .int (nI n)]))]) (run_S hF (c_Ar_copyOf g l _ v cp (sb_cap q cp) a hcg1 hcl hfit) k_Ar_copyOf j_A_108 (cw_down G hP hD hS hA [1] rfl rfl) ⟨Nat.le_of_ble_eq_true rfl, Nat.le_of_ble_eq_true rfl⟩ rfl hl.1 (Nat.le_of_ble_eq_true rfl) d_A_ensureCapacityInternal_32 ⟨(by first | exact Nat.le_of_ble_eq_true rfl | (dsimp only; omega) | omega), (by first | exact Nat.le_of_ble_eq_true rfl | (dsimp only; omega) | omega)⟩) hP hD hS hA [1] [0] rfl rfl rfl (by decide) (fun r_2 w1 H locs hp hP hD hS => ?_)
  obtain ⟨f_3, rfl, hfit2, hkeep2⟩ := hp
  have hP : va_P (gD g) classes [(b, .inr (3, [.ref v, .int 0, .int ml, .int (nI n)])), (v, .inl (gB g, cp, .inl a)), (r_2, .inl (gB g, (sb_cap q cp), .inl f_3))] H := hP
  have hD : va_D A [(b, .inr (3, [.ref v, .int 0, .int ml, .int (nI n)])), (v, .inl (gB g, cp, .inl a)), (r_2, .inl (gB g, (sb_cap q cp), .inl f_3))] := hD
  refine va_put (D := gD g) (ci := 3) (v := .ref r_2) (ty := .array .byte) (C := R_SB) (T := F_SB) (N := 4) hx hb hF.2.2.2.2 in_SB t_SB t_SB_ok n_SB hF.2.2.2.1 hK hP hD hS 0 rfl rfl 0 (by decide) (hF.2.2.2.2 _ fl_A_15) (fun _ h9 => h9) rfl (by decide +kernel) rfl rfl (Nat.le_of_ble_eq_true rfl) d_A_ensureCapacityInternal_35 (fun H locs hP hD hS => ?_)
  have hP : va_P (gD g) classes [(b, .inr (3, [.ref r_2, .int 0, .int ml, .int (nI n)])), (v, .inl (gB g, cp, .inl a)), (r_2, .inl (gB g, (sb_cap q cp), .inl f_3))] H := hP
  have hD : va_D A [(b, .inr (3, [.ref r_2, .int 0, .int ml, .int (nI n)])), (v, .inl (gB g, cp, .inl a)), (r_2, .inl (gB g, (sb_cap q cp), .inl f_3))] := hD
  exact ret_v hx hb hr hlk (hP.sub (ws' := [(b, .inr (3, [.ref r_2, .int 0, .int ml, .int (nI n)])), (r_2, .inl (gB g, (sb_cap q cp), .inl f_3))]) [0, 2] rfl) (hD.sub (ws' := [(b, .inr (3, [.ref r_2, .int 0, .int ml, .int (nI n)])), (r_2, .inl (gB g, (sb_cap q cp), .inl f_3))]) [0, 2] rfl rfl) hS ⟨_, _, rfl, hfit2, hkeep2⟩ (by first | exact Nat.le_of_ble_eq_true rfl | (dsimp only; omega) | omega) (by first | exact Nat.le_of_ble_eq_true rfl | (dsimp only; omega) | omega) d_A_ensureCapacityInternal_38
