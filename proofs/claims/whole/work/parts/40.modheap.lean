theorem m_pmd : ∀ j : Nat, j < 25 → ¬ 9 ≤ nI j ∨ ¬ (nI j - 9 < 0 ∨ 16 ≤ (nI j - 9).toNatClampNeg) := by decide +kernel
theorem m_pm {t : Int32} (h : 9 ≤ t) (h2 : t < 25) : vp_in (t - 9) 16 := by
  obtain ⟨j, hj, rfl⟩ := nI_of (x := t) (fun q => absurd (Int32.lt_of_le_of_lt h q) (by decide))
  exact (m_pmd j ((nI_ltI hj (b := 25) (by decide)).mp h2)).resolve_left (fun q => q h)
theorem m_pl0d : ∀ j : Nat, j < 120 → ¬ f_M_plain (nI j) < 0 := by decide +kernel
theorem m_pl0 {t : Int32} {j : Nat} (hj : j < 120) (ej : t = nI j) : ¬ f_M_plain t < 0 := by rw [ej]; exact m_pl0d j hj
theorem m_pld : ∀ j : Nat, j < 120 → f_M_isType (nI j) = 0 ∨ f_M_plain (nI j) < 25 := by decide +kernel
theorem m_pl2d : ∀ j : Nat, j < 120 → f_M_isType (nI j) = 0 ∨ ¬ nI j < 40 ∨ nI j < 25 := by decide +kernel
theorem m_pl2 {t : Int32} {j : Nat} (hj : j < 120) (ej : t = nI j) (hty : ¬ f_M_isType t = 0) (h : t < 40) : t < 25 := by
  rw [ej] at hty h ⊢
  exact ((m_pl2d j hj).resolve_left hty).resolve_left (fun q => q h)
theorem m_plt {t : Int32} {j : Nat} (hj : j < 120) (ej : t = nI j) (hty : ¬ f_M_isType t = 0) : f_M_plain t < 25 := by
  rw [ej] at hty ⊢
  exact (m_pld j hj).resolve_left hty
def f_M_sign (t : Int32) : Int32 := ((upd (upd (upd (upd (upd (upd (upd (upd (upd (fun _ => 0) (0 : Int32).toNatClampNeg 90) (1 : Int32).toNatClampNeg 66) (2 : Int32).toNatClampNeg 67) (3 : Int32).toNatClampNeg 83) (4 : Int32).toNatClampNeg 73) (5 : Int32).toNatClampNeg 74) (6 : Int32).toNatClampNeg 70) (7 : Int32).toNatClampNeg 68) (8 : Int32).toNatClampNeg 86) (t : Int32).toNatClampNeg)
set_option maxRecDepth 100000 in
theorem k_M_sign : ck y_M_sign b_M_sign 2 (some .int) 1 (.static y_M_sign) := ⟨tk_of (List.mem_of_getElem? (i := 729) rfl) rfl, tk_of (List.mem_of_getElem? (i := 728) (by decide +kernel)) rfl, tk_of (List.mem_of_getElem? (i := 43) (by decide +kernel)) rfl, by decide +kernel⟩
set_option maxHeartbeats 4000000 in
set_option maxRecDepth 100000 in
theorem c_M_sign (g : gT) (l : Launch) (sz : Nat) (t : Int32) (ht : vp_in t 9) : Mg g l y_M_sign b_M_sign 2 (some .int) 0 0 1 9 [.int t] [] sz (qI g (fun r w1 => r = f_M_sign t ∧ w1 = [])) := by
  refine mg_of (by decide) (Nat.le_of_ble_eq_true rfl) ?_
  intro p e s m below meth c ls A hx hb hF hr hlk hnm hA G hP hD hS hl
  have hK := G.2.1
  have hN := G.1
  have hl : lv_has ls 2 [(0, .int t)] := hl
  refine lv_bipush (v := 9) hx hb d_M_sign_0 (by decide) ?_
  refine va_newa (atype := .int) (D := gD g) (cl := classes) (tys := gTy g) hx hb (hF.2.2.2.2 _ ac_int) (ty := .int) rfl hK hP hD hS hA (N' := 9) (a0 := (9, .inl (fun _ => 0))) (fun _ => rfl) (by decide) (by decide) (by decide) (by first | omega | decide) (by first | omega | decide) d_M_sign_2 (fun q_1 cA H hK2 hP hD hS => ?_)
  obtain rfl := cA_int hK2
  have hP : va_P (gD g) classes [(q_1, .inl (gI g, 9, .inl (fun _ => 0)))] H := hP
  have hD : va_D A [(q_1, .inl (gI g, 9, .inl (fun _ => 0)))] := hD
  refine lv_dup hx hb d_M_sign_4 rfl ?_
  refine lv_iconst (v := 0) hx hb d_M_sign_5 (by decide) ?_
  refine lv_bipush (v := 90) hx hb d_M_sign_6 (by decide) ?_
  refine va_iast hx hb hK hP hD hS 0 0 rfl rfl (vp_in_nI (n := 0) (N := 9) (by decide) (by decide)) d_M_sign_8 (fun H locs hP hD hS => ?_)
  have hP : va_P (gD g) classes [(q_1, .inl (gI g, 9, .inl (upd (fun _ => 0) (0 : Int32).toNatClampNeg 90)))] H := hP
  have hD : va_D A [(q_1, .inl (gI g, 9, .inl (upd (fun _ => 0) (0 : Int32).toNatClampNeg 90)))] := hD
  refine lv_dup hx hb d_M_sign_9 rfl ?_
  refine lv_iconst (v := 1) hx hb d_M_sign_10 (by decide) ?_
  refine lv_bipush (v := 66) hx hb d_M_sign_11 (by decide) ?_
  refine va_iast hx hb hK hP hD hS 0 0 rfl rfl (vp_in_nI (n := 1) (N := 9) (by decide) (by decide)) d_M_sign_13 (fun H locs hP hD hS => ?_)
  have hP : va_P (gD g) classes [(q_1, .inl (gI g, 9, .inl (upd (upd (fun _ => 0) (0 : Int32).toNatClampNeg 90) (1 : Int32).toNatClampNeg 66)))] H := hP
  have hD : va_D A [(q_1, .inl (gI g, 9, .inl (upd (upd (fun _ => 0) (0 : Int32).toNatClampNeg 90) (1 : Int32).toNatClampNeg 66)))] := hD
  refine lv_dup hx hb d_M_sign_14 rfl ?_
  refine lv_iconst (v := 2) hx hb d_M_sign_15 (by decide) ?_
  refine lv_bipush (v := 67) hx hb d_M_sign_16 (by decide) ?_
  refine va_iast hx hb hK hP hD hS 0 0 rfl rfl (vp_in_nI (n := 2) (N := 9) (by decide) (by decide)) d_M_sign_18 (fun H locs hP hD hS => ?_)
  have hP : va_P (gD g) classes [(q_1, .inl (gI g, 9, .inl (upd (upd (upd (fun _ => 0) (0 : Int32).toNatClampNeg 90) (1 : Int32).toNatClampNeg 66) (2 : Int32).toNatClampNeg 67)))] H := hP
  have hD : va_D A [(q_1, .inl (gI g, 9, .inl (upd (upd (upd (fun _ => 0) (0 : Int32).toNatClampNeg 90) (1 : Int32).toNatClampNeg 66) (2 : Int32).toNatClampNeg 67)))] := hD
  refine lv_dup hx hb d_M_sign_19 rfl ?_
  refine lv_iconst (v := 3) hx hb d_M_sign_20 (by decide) ?_
  refine lv_bipush (v := 83) hx hb d_M_sign_21 (by decide) ?_
  refine va_iast hx hb hK hP hD hS 0 0 rfl rfl (vp_in_nI (n := 3) (N := 9) (by decide) (by decide)) d_M_sign_23 (fun H locs hP hD hS => ?_)
  have hP : va_P (gD g) classes [(q_1, .inl (gI g, 9, .inl (upd (upd (upd (upd (fun _ => 0) (0 : Int32).toNatClampNeg 90) (1 : Int32).toNatClampNeg 66) (2 : Int32).toNatClampNeg 67) (3 : Int32).toNatClampNeg 83)))] H := hP
  have hD : va_D A [(q_1, .inl (gI g, 9, .inl (upd (upd (upd (upd (fun _ => 0) (0 : Int32).toNatClampNeg 90) (1 : Int32).toNatClampNeg 66) (2 : Int32).toNatClampNeg 67) (3 : Int32).toNatClampNeg 83)))] := hD
  refine lv_dup hx hb d_M_sign_24 rfl ?_
  refine lv_iconst (v := 4) hx hb d_M_sign_25 (by decide) ?_
  refine lv_bipush (v := 73) hx hb d_M_sign_26 (by decide) ?_
  refine va_iast hx hb hK hP hD hS 0 0 rfl rfl (vp_in_nI (n := 4) (N := 9) (by decide) (by decide)) d_M_sign_28 (fun H locs hP hD hS => ?_)
  have hP : va_P (gD g) classes [(q_1, .inl (gI g, 9, .inl (upd (upd (upd (upd (upd (fun _ => 0) (0 : Int32).toNatClampNeg 90) (1 : Int32).toNatClampNeg 66) (2 : Int32).toNatClampNeg 67) (3 : Int32).toNatClampNeg 83) (4 : Int32).toNatClampNeg 73)))] H := hP
  have hD : va_D A [(q_1, .inl (gI g, 9, .inl (upd (upd (upd (upd (upd (fun _ => 0) (0 : Int32).toNatClampNeg 90) (1 : Int32).toNatClampNeg 66) (2 : Int32).toNatClampNeg 67) (3 : Int32).toNatClampNeg 83) (4 : Int32).toNatClampNeg 73)))] := hD
  refine lv_dup hx hb d_M_sign_29 rfl ?_
  refine lv_iconst (v := 5) hx hb d_M_sign_30 (by decide) ?_
  refine lv_bipush (v := 74) hx hb d_M_sign_31 (by decide) ?_
  refine va_iast hx hb hK hP hD hS 0 0 rfl rfl (vp_in_nI (n := 5) (N := 9) (by decide) (by decide)) d_M_sign_33 (fun H locs hP hD hS => ?_)
  have hP : va_P (gD g) classes [(q_1, .inl (gI g, 9, .inl (upd (upd (upd (upd (upd (upd (fun _ => 0) (0 : Int32).toNatClampNeg 90) (1 : Int32).toNatClampNeg 66) (2 : Int32).toNatClampNeg 67) (3 : Int32).toNatClampNeg 83) (4 : Int32).toNatClampNeg 73) (5 : Int32).toNatClampNeg 74)))] H := hP
  have hD : va_D A [(q_1, .inl (gI g, 9, .inl (upd (upd (upd (upd (upd (upd (fun _ => 0) (0 : Int32).toNatClampNeg 90) (1 : Int32).toNatClampNeg 66) (2 : Int32).toNatClampNeg 67) (3 : Int32).toNatClampNeg 83) (4 : Int32).toNatClampNeg 73) (5 : Int32).toNatClampNeg 74)))] := hD
  refine lv_dup hx hb d_M_sign_34 rfl ?_
  refine lv_bipush (v := 6) hx hb d_M_sign_35 (by decide) ?_
  refine lv_bipush (v := 70) hx hb d_M_sign_37 (by decide) ?_
  refine va_iast hx hb hK hP hD hS 0 0 rfl rfl (vp_in_nI (n := 6) (N := 9) (by decide) (by decide)) d_M_sign_39 (fun H locs hP hD hS => ?_)
  have hP : va_P (gD g) classes [(q_1, .inl (gI g, 9, .inl (upd (upd (upd (upd (upd (upd (upd (fun _ => 0) (0 : Int32).toNatClampNeg 90) (1 : Int32).toNatClampNeg 66) (2 : Int32).toNatClampNeg 67) (3 : Int32).toNatClampNeg 83) (4 : Int32).toNatClampNeg 73) (5 : Int32).toNatClampNeg 74) (6 : Int32).toNatClampNeg 70)))] H := hP
  have hD : va_D A [(q_1, .inl (gI g, 9, .inl (upd (upd (upd (upd (upd (upd (upd (fun _ => 0) (0 : Int32).toNatClampNeg 90) (1 : Int32).toNatClampNeg 66) (2 : Int32).toNatClampNeg 67) (3 : Int32).toNatClampNeg 83) (4 : Int32).toNatClampNeg 73) (5 : Int32).toNatClampNeg 74) (6 : Int32).toNatClampNeg 70)))] := hD
  refine lv_dup hx hb d_M_sign_40 rfl ?_
  refine lv_bipush (v := 7) hx hb d_M_sign_41 (by decide) ?_
  refine lv_bipush (v := 68) hx hb d_M_sign_43 (by decide) ?_
  refine va_iast hx hb hK hP hD hS 0 0 rfl rfl (vp_in_nI (n := 7) (N := 9) (by decide) (by decide)) d_M_sign_45 (fun H locs hP hD hS => ?_)
  have hP : va_P (gD g) classes [(q_1, .inl (gI g, 9, .inl (upd (upd (upd (upd (upd (upd (upd (upd (fun _ => 0) (0 : Int32).toNatClampNeg 90) (1 : Int32).toNatClampNeg 66) (2 : Int32).toNatClampNeg 67) (3 : Int32).toNatClampNeg 83) (4 : Int32).toNatClampNeg 73) (5 : Int32).toNatClampNeg 74) (6 : Int32).toNatClampNeg 70) (7 : Int32).toNatClampNeg 68)))] H := hP
  have hD : va_D A [(q_1, .inl (gI g, 9, .inl (upd (upd (upd (upd (upd (upd (upd (upd (fun _ => 0) (0 : Int32).toNatClampNeg 90) (1 : Int32).toNatClampNeg 66) (2 : Int32).toNatClampNeg 67) (3 : Int32).toNatClampNeg 83) (4 : Int32).toNatClampNeg 73) (5 : Int32).toNatClampNeg 74) (6 : Int32).toNatClampNeg 70) (7 : Int32).toNatClampNeg 68)))] := hD
  refine lv_dup hx hb d_M_sign_46 rfl ?_
  refine lv_bipush (v := 8) hx hb d_M_sign_47 (by decide) ?_
  refine lv_bipush (v := 86) hx hb d_M_sign_49 (by decide) ?_
  refine va_iast hx hb hK hP hD hS 0 0 rfl rfl (vp_in_nI (n := 8) (N := 9) (by decide) (by decide)) d_M_sign_51 (fun H locs hP hD hS => ?_)
  have hP : va_P (gD g) classes [(q_1, .inl (gI g, 9, .inl (upd (upd (upd (upd (upd (upd (upd (upd (upd (fun _ => 0) (0 : Int32).toNatClampNeg 90) (1 : Int32).toNatClampNeg 66) (2 : Int32).toNatClampNeg 67) (3 : Int32).toNatClampNeg 83) (4 : Int32).toNatClampNeg 73) (5 : Int32).toNatClampNeg 74) (6 : Int32).toNatClampNeg 70) (7 : Int32).toNatClampNeg 68) (8 : Int32).toNatClampNeg 86)))] H := hP
  have hD : va_D A [(q_1, .inl (gI g, 9, .inl (upd (upd (upd (upd (upd (upd (upd (upd (upd (fun _ => 0) (0 : Int32).toNatClampNeg 90) (1 : Int32).toNatClampNeg 66) (2 : Int32).toNatClampNeg 67) (3 : Int32).toNatClampNeg 83) (4 : Int32).toNatClampNeg 73) (5 : Int32).toNatClampNeg 74) (6 : Int32).toNatClampNeg 70) (7 : Int32).toNatClampNeg 68) (8 : Int32).toNatClampNeg 86)))] := hD
  refine lv_astore_n (lv' := [(1, .ref q_1), (0, .int t)]) hx hb d_M_sign_52 rfl hl (by decide) rfl (fun ls hl => ?_)
  refine lv_aload_n hx hb d_M_sign_53 rfl (lv_at hl 0 rfl) ?_
  refine lv_iload_n hx hb d_M_sign_54 rfl (lv_at hl 1 rfl) ?_
  refine va_iald hx hb hK hP 0 0 rfl rfl ht d_M_sign_55 ?_
  exact ret_i hx hb hr hlk (hP.sub (ws' := []) [] rfl) (hD.sub (ws' := []) [] rfl rfl) hS (nar_i _) ⟨by rw [f_M_sign], rfl⟩ (by first | exact Nat.le_of_ble_eq_true rfl | (dsimp only; omega) | omega) (by first | exact Nat.le_of_ble_eq_true rfl | (dsimp only; omega) | omega) d_M_sign_56
def f_M_plainModifiers (t : Int32) : Int32 := (if 9 ≤ t then ((upd (upd (upd (upd (upd (upd (upd (upd (upd (upd (upd (upd (upd (upd (upd (upd (fun _ => 0) (0 : Int32).toNatClampNeg 1) (1 : Int32).toNatClampNeg 1537) (2 : Int32).toNatClampNeg 17) (3 : Int32).toNatClampNeg 1544) (4 : Int32).toNatClampNeg 1544) (5 : Int32).toNatClampNeg 24) (6 : Int32).toNatClampNeg 24) (7 : Int32).toNatClampNeg 16392) (8 : Int32).toNatClampNeg 16400) (9 : Int32).toNatClampNeg 2) (10 : Int32).toNatClampNeg 4) (11 : Int32).toNatClampNeg 9736) (12 : Int32).toNatClampNeg 1032) (13 : Int32).toNatClampNeg 8) (14 : Int32).toNatClampNeg 0) (15 : Int32).toNatClampNeg 0) ((t - 9) : Int32).toNatClampNeg) else 1041)
set_option maxRecDepth 100000 in
theorem k_M_plainModifiers : ck y_M_plainModifiers b_M_plainModifiers 2 (some .int) 1 (.static y_M_plainModifiers) := ⟨tk_of (List.mem_of_getElem? (i := 800) rfl) rfl, tk_of (List.mem_of_getElem? (i := 799) (by decide +kernel)) rfl, tk_of (List.mem_of_getElem? (i := 43) (by decide +kernel)) rfl, by decide +kernel⟩
set_option maxHeartbeats 4000000 in
set_option maxRecDepth 100000 in
theorem c_M_plainModifiers (g : gT) (l : Launch) (sz : Nat) (t : Int32) (ht : ¬ t < 0) (ht2 : t < 25) : Mg g l y_M_plainModifiers b_M_plainModifiers 2 (some .int) 0 0 1 16 [.int t] [] sz (qI g (fun r w1 => r = f_M_plainModifiers t ∧ w1 = [])) := by
  refine mg_of (by decide) (Nat.le_of_ble_eq_true rfl) ?_
  intro p e s m below meth c ls A hx hb hF hr hlk hnm hA G hP hD hS hl
  have hK := G.2.1
  have hN := G.1
  have hl : lv_has ls 2 [(0, .int t)] := hl
  refine lv_iload_n hx hb d_M_plainModifiers_0 rfl (lv_at hl 0 rfl) ?_
  refine lv_bipush (v := 9) hx hb d_M_plainModifiers_1 (by decide) ?_
  refine lv_icmp_ge (tgt := 10) hx hb d_M_plainModifiers_3 (by decide) (fun c_1 => ?_) (fun c_1 => ?_)
  · skip
    refine lv_bipush (v := 16) hx hb d_M_plainModifiers_10 (by decide) ?_
    refine va_newa (atype := .int) (D := gD g) (cl := classes) (tys := gTy g) hx hb (hF.2.2.2.2 _ ac_int) (ty := .int) rfl hK hP hD hS hA (N' := 16) (a0 := (16, .inl (fun _ => 0))) (fun _ => rfl) (by decide) (by decide) (by decide) (by first | omega | decide) (by first | omega | decide) d_M_plainModifiers_12 (fun q_2 cA H hK2 hP hD hS => ?_)
    obtain rfl := cA_int hK2
    have hP : va_P (gD g) classes [(q_2, .inl (gI g, 16, .inl (fun _ => 0)))] H := hP
    have hD : va_D A [(q_2, .inl (gI g, 16, .inl (fun _ => 0)))] := hD
    refine lv_dup hx hb d_M_plainModifiers_14 rfl ?_
    refine lv_iconst (v := 0) hx hb d_M_plainModifiers_15 (by decide) ?_
    refine lv_iconst (v := 1) hx hb d_M_plainModifiers_16 (by decide) ?_
    refine va_iast hx hb hK hP hD hS 0 0 rfl rfl (vp_in_nI (n := 0) (N := 16) (by decide) (by decide)) d_M_plainModifiers_17 (fun H locs hP hD hS => ?_)
    have hP : va_P (gD g) classes [(q_2, .inl (gI g, 16, .inl (upd (fun _ => 0) (0 : Int32).toNatClampNeg 1)))] H := hP
    have hD : va_D A [(q_2, .inl (gI g, 16, .inl (upd (fun _ => 0) (0 : Int32).toNatClampNeg 1)))] := hD
    refine lv_dup hx hb d_M_plainModifiers_18 rfl ?_
    refine lv_iconst (v := 1) hx hb d_M_plainModifiers_19 (by decide) ?_
    refine lv_sipush (v := 1537) hx hb d_M_plainModifiers_20 (by decide) ?_
    refine va_iast hx hb hK hP hD hS 0 0 rfl rfl (vp_in_nI (n := 1) (N := 16) (by decide) (by decide)) d_M_plainModifiers_23 (fun H locs hP hD hS => ?_)
    have hP : va_P (gD g) classes [(q_2, .inl (gI g, 16, .inl (upd (upd (fun _ => 0) (0 : Int32).toNatClampNeg 1) (1 : Int32).toNatClampNeg 1537)))] H := hP
    have hD : va_D A [(q_2, .inl (gI g, 16, .inl (upd (upd (fun _ => 0) (0 : Int32).toNatClampNeg 1) (1 : Int32).toNatClampNeg 1537)))] := hD
    refine lv_dup hx hb d_M_plainModifiers_24 rfl ?_
    refine lv_iconst (v := 2) hx hb d_M_plainModifiers_25 (by decide) ?_
    refine lv_bipush (v := 17) hx hb d_M_plainModifiers_26 (by decide) ?_
    refine va_iast hx hb hK hP hD hS 0 0 rfl rfl (vp_in_nI (n := 2) (N := 16) (by decide) (by decide)) d_M_plainModifiers_28 (fun H locs hP hD hS => ?_)
    have hP : va_P (gD g) classes [(q_2, .inl (gI g, 16, .inl (upd (upd (upd (fun _ => 0) (0 : Int32).toNatClampNeg 1) (1 : Int32).toNatClampNeg 1537) (2 : Int32).toNatClampNeg 17)))] H := hP
    have hD : va_D A [(q_2, .inl (gI g, 16, .inl (upd (upd (upd (fun _ => 0) (0 : Int32).toNatClampNeg 1) (1 : Int32).toNatClampNeg 1537) (2 : Int32).toNatClampNeg 17)))] := hD
    refine lv_dup hx hb d_M_plainModifiers_29 rfl ?_
    refine lv_iconst (v := 3) hx hb d_M_plainModifiers_30 (by decide) ?_
    refine lv_sipush (v := 1544) hx hb d_M_plainModifiers_31 (by decide) ?_
    refine va_iast hx hb hK hP hD hS 0 0 rfl rfl (vp_in_nI (n := 3) (N := 16) (by decide) (by decide)) d_M_plainModifiers_34 (fun H locs hP hD hS => ?_)
    have hP : va_P (gD g) classes [(q_2, .inl (gI g, 16, .inl (upd (upd (upd (upd (fun _ => 0) (0 : Int32).toNatClampNeg 1) (1 : Int32).toNatClampNeg 1537) (2 : Int32).toNatClampNeg 17) (3 : Int32).toNatClampNeg 1544)))] H := hP
    have hD : va_D A [(q_2, .inl (gI g, 16, .inl (upd (upd (upd (upd (fun _ => 0) (0 : Int32).toNatClampNeg 1) (1 : Int32).toNatClampNeg 1537) (2 : Int32).toNatClampNeg 17) (3 : Int32).toNatClampNeg 1544)))] := hD
    refine lv_dup hx hb d_M_plainModifiers_35 rfl ?_
    refine lv_iconst (v := 4) hx hb d_M_plainModifiers_36 (by decide) ?_
    refine lv_sipush (v := 1544) hx hb d_M_plainModifiers_37 (by decide) ?_
    refine va_iast hx hb hK hP hD hS 0 0 rfl rfl (vp_in_nI (n := 4) (N := 16) (by decide) (by decide)) d_M_plainModifiers_40 (fun H locs hP hD hS => ?_)
    have hP : va_P (gD g) classes [(q_2, .inl (gI g, 16, .inl (upd (upd (upd (upd (upd (fun _ => 0) (0 : Int32).toNatClampNeg 1) (1 : Int32).toNatClampNeg 1537) (2 : Int32).toNatClampNeg 17) (3 : Int32).toNatClampNeg 1544) (4 : Int32).toNatClampNeg 1544)))] H := hP
    have hD : va_D A [(q_2, .inl (gI g, 16, .inl (upd (upd (upd (upd (upd (fun _ => 0) (0 : Int32).toNatClampNeg 1) (1 : Int32).toNatClampNeg 1537) (2 : Int32).toNatClampNeg 17) (3 : Int32).toNatClampNeg 1544) (4 : Int32).toNatClampNeg 1544)))] := hD
    refine lv_dup hx hb d_M_plainModifiers_41 rfl ?_
    refine lv_iconst (v := 5) hx hb d_M_plainModifiers_42 (by decide) ?_
    refine lv_bipush (v := 24) hx hb d_M_plainModifiers_43 (by decide) ?_
    refine va_iast hx hb hK hP hD hS 0 0 rfl rfl (vp_in_nI (n := 5) (N := 16) (by decide) (by decide)) d_M_plainModifiers_45 (fun H locs hP hD hS => ?_)
    have hP : va_P (gD g) classes [(q_2, .inl (gI g, 16, .inl (upd (upd (upd (upd (upd (upd (fun _ => 0) (0 : Int32).toNatClampNeg 1) (1 : Int32).toNatClampNeg 1537) (2 : Int32).toNatClampNeg 17) (3 : Int32).toNatClampNeg 1544) (4 : Int32).toNatClampNeg 1544) (5 : Int32).toNatClampNeg 24)))] H := hP
    have hD : va_D A [(q_2, .inl (gI g, 16, .inl (upd (upd (upd (upd (upd (upd (fun _ => 0) (0 : Int32).toNatClampNeg 1) (1 : Int32).toNatClampNeg 1537) (2 : Int32).toNatClampNeg 17) (3 : Int32).toNatClampNeg 1544) (4 : Int32).toNatClampNeg 1544) (5 : Int32).toNatClampNeg 24)))] := hD
    refine lv_dup hx hb d_M_plainModifiers_46 rfl ?_
    refine lv_bipush (v := 6) hx hb d_M_plainModifiers_47 (by decide) ?_
    refine lv_bipush (v := 24) hx hb d_M_plainModifiers_49 (by decide) ?_
    refine va_iast hx hb hK hP hD hS 0 0 rfl rfl (vp_in_nI (n := 6) (N := 16) (by decide) (by decide)) d_M_plainModifiers_51 (fun H locs hP hD hS => ?_)
    have hP : va_P (gD g) classes [(q_2, .inl (gI g, 16, .inl (upd (upd (upd (upd (upd (upd (upd (fun _ => 0) (0 : Int32).toNatClampNeg 1) (1 : Int32).toNatClampNeg 1537) (2 : Int32).toNatClampNeg 17) (3 : Int32).toNatClampNeg 1544) (4 : Int32).toNatClampNeg 1544) (5 : Int32).toNatClampNeg 24) (6 : Int32).toNatClampNeg 24)))] H := hP
    have hD : va_D A [(q_2, .inl (gI g, 16, .inl (upd (upd (upd (upd (upd (upd (upd (fun _ => 0) (0 : Int32).toNatClampNeg 1) (1 : Int32).toNatClampNeg 1537) (2 : Int32).toNatClampNeg 17) (3 : Int32).toNatClampNeg 1544) (4 : Int32).toNatClampNeg 1544) (5 : Int32).toNatClampNeg 24) (6 : Int32).toNatClampNeg 24)))] := hD
    refine lv_dup hx hb d_M_plainModifiers_52 rfl ?_
    refine lv_bipush (v := 7) hx hb d_M_plainModifiers_53 (by decide) ?_
    refine lv_sipush (v := 16392) hx hb d_M_plainModifiers_55 (by decide) ?_
    refine va_iast hx hb hK hP hD hS 0 0 rfl rfl (vp_in_nI (n := 7) (N := 16) (by decide) (by decide)) d_M_plainModifiers_58 (fun H locs hP hD hS => ?_)
    have hP : va_P (gD g) classes [(q_2, .inl (gI g, 16, .inl (upd (upd (upd (upd (upd (upd (upd (upd (fun _ => 0) (0 : Int32).toNatClampNeg 1) (1 : Int32).toNatClampNeg 1537) (2 : Int32).toNatClampNeg 17) (3 : Int32).toNatClampNeg 1544) (4 : Int32).toNatClampNeg 1544) (5 : Int32).toNatClampNeg 24) (6 : Int32).toNatClampNeg 24) (7 : Int32).toNatClampNeg 16392)))] H := hP
    have hD : va_D A [(q_2, .inl (gI g, 16, .inl (upd (upd (upd (upd (upd (upd (upd (upd (fun _ => 0) (0 : Int32).toNatClampNeg 1) (1 : Int32).toNatClampNeg 1537) (2 : Int32).toNatClampNeg 17) (3 : Int32).toNatClampNeg 1544) (4 : Int32).toNatClampNeg 1544) (5 : Int32).toNatClampNeg 24) (6 : Int32).toNatClampNeg 24) (7 : Int32).toNatClampNeg 16392)))] := hD
    refine lv_dup hx hb d_M_plainModifiers_59 rfl ?_
    refine lv_bipush (v := 8) hx hb d_M_plainModifiers_60 (by decide) ?_
    refine lv_sipush (v := 16400) hx hb d_M_plainModifiers_62 (by decide) ?_
    refine va_iast hx hb hK hP hD hS 0 0 rfl rfl (vp_in_nI (n := 8) (N := 16) (by decide) (by decide)) d_M_plainModifiers_65 (fun H locs hP hD hS => ?_)
    have hP : va_P (gD g) classes [(q_2, .inl (gI g, 16, .inl (upd (upd (upd (upd (upd (upd (upd (upd (upd (fun _ => 0) (0 : Int32).toNatClampNeg 1) (1 : Int32).toNatClampNeg 1537) (2 : Int32).toNatClampNeg 17) (3 : Int32).toNatClampNeg 1544) (4 : Int32).toNatClampNeg 1544) (5 : Int32).toNatClampNeg 24) (6 : Int32).toNatClampNeg 24) (7 : Int32).toNatClampNeg 16392) (8 : Int32).toNatClampNeg 16400)))] H := hP
    have hD : va_D A [(q_2, .inl (gI g, 16, .inl (upd (upd (upd (upd (upd (upd (upd (upd (upd (fun _ => 0) (0 : Int32).toNatClampNeg 1) (1 : Int32).toNatClampNeg 1537) (2 : Int32).toNatClampNeg 17) (3 : Int32).toNatClampNeg 1544) (4 : Int32).toNatClampNeg 1544) (5 : Int32).toNatClampNeg 24) (6 : Int32).toNatClampNeg 24) (7 : Int32).toNatClampNeg 16392) (8 : Int32).toNatClampNeg 16400)))] := hD
    refine lv_dup hx hb d_M_plainModifiers_66 rfl ?_
    refine lv_bipush (v := 9) hx hb d_M_plainModifiers_67 (by decide) ?_
    refine lv_iconst (v := 2) hx hb d_M_plainModifiers_69 (by decide) ?_
    refine va_iast hx hb hK hP hD hS 0 0 rfl rfl (vp_in_nI (n := 9) (N := 16) (by decide) (by decide)) d_M_plainModifiers_70 (fun H locs hP hD hS => ?_)
    have hP : va_P (gD g) classes [(q_2, .inl (gI g, 16, .inl (upd (upd (upd (upd (upd (upd (upd (upd (upd (upd (fun _ => 0) (0 : Int32).toNatClampNeg 1) (1 : Int32).toNatClampNeg 1537) (2 : Int32).toNatClampNeg 17) (3 : Int32).toNatClampNeg 1544) (4 : Int32).toNatClampNeg 1544) (5 : Int32).toNatClampNeg 24) (6 : Int32).toNatClampNeg 24) (7 : Int32).toNatClampNeg 16392) (8 : Int32).toNatClampNeg 16400) (9 : Int32).toNatClampNeg 2)))] H := hP
    have hD : va_D A [(q_2, .inl (gI g, 16, .inl (upd (upd (upd (upd (upd (upd (upd (upd (upd (upd (fun _ => 0) (0 : Int32).toNatClampNeg 1) (1 : Int32).toNatClampNeg 1537) (2 : Int32).toNatClampNeg 17) (3 : Int32).toNatClampNeg 1544) (4 : Int32).toNatClampNeg 1544) (5 : Int32).toNatClampNeg 24) (6 : Int32).toNatClampNeg 24) (7 : Int32).toNatClampNeg 16392) (8 : Int32).toNatClampNeg 16400) (9 : Int32).toNatClampNeg 2)))] := hD
    refine lv_dup hx hb d_M_plainModifiers_71 rfl ?_
    refine lv_bipush (v := 10) hx hb d_M_plainModifiers_72 (by decide) ?_
    refine lv_iconst (v := 4) hx hb d_M_plainModifiers_74 (by decide) ?_
    refine va_iast hx hb hK hP hD hS 0 0 rfl rfl (vp_in_nI (n := 10) (N := 16) (by decide) (by decide)) d_M_plainModifiers_75 (fun H locs hP hD hS => ?_)
    have hP : va_P (gD g) classes [(q_2, .inl (gI g, 16, .inl (upd (upd (upd (upd (upd (upd (upd (upd (upd (upd (upd (fun _ => 0) (0 : Int32).toNatClampNeg 1) (1 : Int32).toNatClampNeg 1537) (2 : Int32).toNatClampNeg 17) (3 : Int32).toNatClampNeg 1544) (4 : Int32).toNatClampNeg 1544) (5 : Int32).toNatClampNeg 24) (6 : Int32).toNatClampNeg 24) (7 : Int32).toNatClampNeg 16392) (8 : Int32).toNatClampNeg 16400) (9 : Int32).toNatClampNeg 2) (10 : Int32).toNatClampNeg 4)))] H := hP
    have hD : va_D A [(q_2, .inl (gI g, 16, .inl (upd (upd (upd (upd (upd (upd (upd (upd (upd (upd (upd (fun _ => 0) (0 : Int32).toNatClampNeg 1) (1 : Int32).toNatClampNeg 1537) (2 : Int32).toNatClampNeg 17) (3 : Int32).toNatClampNeg 1544) (4 : Int32).toNatClampNeg 1544) (5 : Int32).toNatClampNeg 24) (6 : Int32).toNatClampNeg 24) (7 : Int32).toNatClampNeg 16392) (8 : Int32).toNatClampNeg 16400) (9 : Int32).toNatClampNeg 2) (10 : Int32).toNatClampNeg 4)))] := hD
    refine lv_dup hx hb d_M_plainModifiers_76 rfl ?_
    refine lv_bipush (v := 11) hx hb d_M_plainModifiers_77 (by decide) ?_
    refine lv_sipush (v := 9736) hx hb d_M_plainModifiers_79 (by decide) ?_
    refine va_iast hx hb hK hP hD hS 0 0 rfl rfl (vp_in_nI (n := 11) (N := 16) (by decide) (by decide)) d_M_plainModifiers_82 (fun H locs hP hD hS => ?_)
    have hP : va_P (gD g) classes [(q_2, .inl (gI g, 16, .inl (upd (upd (upd (upd (upd (upd (upd (upd (upd (upd (upd (upd (fun _ => 0) (0 : Int32).toNatClampNeg 1) (1 : Int32).toNatClampNeg 1537) (2 : Int32).toNatClampNeg 17) (3 : Int32).toNatClampNeg 1544) (4 : Int32).toNatClampNeg 1544) (5 : Int32).toNatClampNeg 24) (6 : Int32).toNatClampNeg 24) (7 : Int32).toNatClampNeg 16392) (8 : Int32).toNatClampNeg 16400) (9 : Int32).toNatClampNeg 2) (10 : Int32).toNatClampNeg 4) (11 : Int32).toNatClampNeg 9736)))] H := hP
    have hD : va_D A [(q_2, .inl (gI g, 16, .inl (upd (upd (upd (upd (upd (upd (upd (upd (upd (upd (upd (upd (fun _ => 0) (0 : Int32).toNatClampNeg 1) (1 : Int32).toNatClampNeg 1537) (2 : Int32).toNatClampNeg 17) (3 : Int32).toNatClampNeg 1544) (4 : Int32).toNatClampNeg 1544) (5 : Int32).toNatClampNeg 24) (6 : Int32).toNatClampNeg 24) (7 : Int32).toNatClampNeg 16392) (8 : Int32).toNatClampNeg 16400) (9 : Int32).toNatClampNeg 2) (10 : Int32).toNatClampNeg 4) (11 : Int32).toNatClampNeg 9736)))] := hD
    refine lv_dup hx hb d_M_plainModifiers_83 rfl ?_
    refine lv_bipush (v := 12) hx hb d_M_plainModifiers_84 (by decide) ?_
    refine lv_sipush (v := 1032) hx hb d_M_plainModifiers_86 (by decide) ?_
    refine va_iast hx hb hK hP hD hS 0 0 rfl rfl (vp_in_nI (n := 12) (N := 16) (by decide) (by decide)) d_M_plainModifiers_89 (fun H locs hP hD hS => ?_)
    have hP : va_P (gD g) classes [(q_2, .inl (gI g, 16, .inl (upd (upd (upd (upd (upd (upd (upd (upd (upd (upd (upd (upd (upd (fun _ => 0) (0 : Int32).toNatClampNeg 1) (1 : Int32).toNatClampNeg 1537) (2 : Int32).toNatClampNeg 17) (3 : Int32).toNatClampNeg 1544) (4 : Int32).toNatClampNeg 1544) (5 : Int32).toNatClampNeg 24) (6 : Int32).toNatClampNeg 24) (7 : Int32).toNatClampNeg 16392) (8 : Int32).toNatClampNeg 16400) (9 : Int32).toNatClampNeg 2) (10 : Int32).toNatClampNeg 4) (11 : Int32).toNatClampNeg 9736) (12 : Int32).toNatClampNeg 1032)))] H := hP
    have hD : va_D A [(q_2, .inl (gI g, 16, .inl (upd (upd (upd (upd (upd (upd (upd (upd (upd (upd (upd (upd (upd (fun _ => 0) (0 : Int32).toNatClampNeg 1) (1 : Int32).toNatClampNeg 1537) (2 : Int32).toNatClampNeg 17) (3 : Int32).toNatClampNeg 1544) (4 : Int32).toNatClampNeg 1544) (5 : Int32).toNatClampNeg 24) (6 : Int32).toNatClampNeg 24) (7 : Int32).toNatClampNeg 16392) (8 : Int32).toNatClampNeg 16400) (9 : Int32).toNatClampNeg 2) (10 : Int32).toNatClampNeg 4) (11 : Int32).toNatClampNeg 9736) (12 : Int32).toNatClampNeg 1032)))] := hD
    refine lv_dup hx hb d_M_plainModifiers_90 rfl ?_
    refine lv_bipush (v := 13) hx hb d_M_plainModifiers_91 (by decide) ?_
    refine lv_bipush (v := 8) hx hb d_M_plainModifiers_93 (by decide) ?_
    refine va_iast hx hb hK hP hD hS 0 0 rfl rfl (vp_in_nI (n := 13) (N := 16) (by decide) (by decide)) d_M_plainModifiers_95 (fun H locs hP hD hS => ?_)
    have hP : va_P (gD g) classes [(q_2, .inl (gI g, 16, .inl (upd (upd (upd (upd (upd (upd (upd (upd (upd (upd (upd (upd (upd (upd (fun _ => 0) (0 : Int32).toNatClampNeg 1) (1 : Int32).toNatClampNeg 1537) (2 : Int32).toNatClampNeg 17) (3 : Int32).toNatClampNeg 1544) (4 : Int32).toNatClampNeg 1544) (5 : Int32).toNatClampNeg 24) (6 : Int32).toNatClampNeg 24) (7 : Int32).toNatClampNeg 16392) (8 : Int32).toNatClampNeg 16400) (9 : Int32).toNatClampNeg 2) (10 : Int32).toNatClampNeg 4) (11 : Int32).toNatClampNeg 9736) (12 : Int32).toNatClampNeg 1032) (13 : Int32).toNatClampNeg 8)))] H := hP
    have hD : va_D A [(q_2, .inl (gI g, 16, .inl (upd (upd (upd (upd (upd (upd (upd (upd (upd (upd (upd (upd (upd (upd (fun _ => 0) (0 : Int32).toNatClampNeg 1) (1 : Int32).toNatClampNeg 1537) (2 : Int32).toNatClampNeg 17) (3 : Int32).toNatClampNeg 1544) (4 : Int32).toNatClampNeg 1544) (5 : Int32).toNatClampNeg 24) (6 : Int32).toNatClampNeg 24) (7 : Int32).toNatClampNeg 16392) (8 : Int32).toNatClampNeg 16400) (9 : Int32).toNatClampNeg 2) (10 : Int32).toNatClampNeg 4) (11 : Int32).toNatClampNeg 9736) (12 : Int32).toNatClampNeg 1032) (13 : Int32).toNatClampNeg 8)))] := hD
    refine lv_dup hx hb d_M_plainModifiers_96 rfl ?_
    refine lv_bipush (v := 14) hx hb d_M_plainModifiers_97 (by decide) ?_
    refine lv_iconst (v := 0) hx hb d_M_plainModifiers_99 (by decide) ?_
    refine va_iast hx hb hK hP hD hS 0 0 rfl rfl (vp_in_nI (n := 14) (N := 16) (by decide) (by decide)) d_M_plainModifiers_100 (fun H locs hP hD hS => ?_)
    have hP : va_P (gD g) classes [(q_2, .inl (gI g, 16, .inl (upd (upd (upd (upd (upd (upd (upd (upd (upd (upd (upd (upd (upd (upd (upd (fun _ => 0) (0 : Int32).toNatClampNeg 1) (1 : Int32).toNatClampNeg 1537) (2 : Int32).toNatClampNeg 17) (3 : Int32).toNatClampNeg 1544) (4 : Int32).toNatClampNeg 1544) (5 : Int32).toNatClampNeg 24) (6 : Int32).toNatClampNeg 24) (7 : Int32).toNatClampNeg 16392) (8 : Int32).toNatClampNeg 16400) (9 : Int32).toNatClampNeg 2) (10 : Int32).toNatClampNeg 4) (11 : Int32).toNatClampNeg 9736) (12 : Int32).toNatClampNeg 1032) (13 : Int32).toNatClampNeg 8) (14 : Int32).toNatClampNeg 0)))] H := hP
    have hD : va_D A [(q_2, .inl (gI g, 16, .inl (upd (upd (upd (upd (upd (upd (upd (upd (upd (upd (upd (upd (upd (upd (upd (fun _ => 0) (0 : Int32).toNatClampNeg 1) (1 : Int32).toNatClampNeg 1537) (2 : Int32).toNatClampNeg 17) (3 : Int32).toNatClampNeg 1544) (4 : Int32).toNatClampNeg 1544) (5 : Int32).toNatClampNeg 24) (6 : Int32).toNatClampNeg 24) (7 : Int32).toNatClampNeg 16392) (8 : Int32).toNatClampNeg 16400) (9 : Int32).toNatClampNeg 2) (10 : Int32).toNatClampNeg 4) (11 : Int32).toNatClampNeg 9736) (12 : Int32).toNatClampNeg 1032) (13 : Int32).toNatClampNeg 8) (14 : Int32).toNatClampNeg 0)))] := hD
    refine lv_dup hx hb d_M_plainModifiers_101 rfl ?_
    refine lv_bipush (v := 15) hx hb d_M_plainModifiers_102 (by decide) ?_
    refine lv_iconst (v := 0) hx hb d_M_plainModifiers_104 (by decide) ?_
    refine va_iast hx hb hK hP hD hS 0 0 rfl rfl (vp_in_nI (n := 15) (N := 16) (by decide) (by decide)) d_M_plainModifiers_105 (fun H locs hP hD hS => ?_)
    have hP : va_P (gD g) classes [(q_2, .inl (gI g, 16, .inl (upd (upd (upd (upd (upd (upd (upd (upd (upd (upd (upd (upd (upd (upd (upd (upd (fun _ => 0) (0 : Int32).toNatClampNeg 1) (1 : Int32).toNatClampNeg 1537) (2 : Int32).toNatClampNeg 17) (3 : Int32).toNatClampNeg 1544) (4 : Int32).toNatClampNeg 1544) (5 : Int32).toNatClampNeg 24) (6 : Int32).toNatClampNeg 24) (7 : Int32).toNatClampNeg 16392) (8 : Int32).toNatClampNeg 16400) (9 : Int32).toNatClampNeg 2) (10 : Int32).toNatClampNeg 4) (11 : Int32).toNatClampNeg 9736) (12 : Int32).toNatClampNeg 1032) (13 : Int32).toNatClampNeg 8) (14 : Int32).toNatClampNeg 0) (15 : Int32).toNatClampNeg 0)))] H := hP
    have hD : va_D A [(q_2, .inl (gI g, 16, .inl (upd (upd (upd (upd (upd (upd (upd (upd (upd (upd (upd (upd (upd (upd (upd (upd (fun _ => 0) (0 : Int32).toNatClampNeg 1) (1 : Int32).toNatClampNeg 1537) (2 : Int32).toNatClampNeg 17) (3 : Int32).toNatClampNeg 1544) (4 : Int32).toNatClampNeg 1544) (5 : Int32).toNatClampNeg 24) (6 : Int32).toNatClampNeg 24) (7 : Int32).toNatClampNeg 16392) (8 : Int32).toNatClampNeg 16400) (9 : Int32).toNatClampNeg 2) (10 : Int32).toNatClampNeg 4) (11 : Int32).toNatClampNeg 9736) (12 : Int32).toNatClampNeg 1032) (13 : Int32).toNatClampNeg 8) (14 : Int32).toNatClampNeg 0) (15 : Int32).toNatClampNeg 0)))] := hD
    refine lv_astore_n (lv' := [(1, .ref q_2), (0, .int t)]) hx hb d_M_plainModifiers_106 rfl hl (by decide) rfl (fun ls hl => ?_)
    refine lv_aload_n hx hb d_M_plainModifiers_107 rfl (lv_at hl 0 rfl) ?_
    refine lv_iload_n hx hb d_M_plainModifiers_108 rfl (lv_at hl 1 rfl) ?_
    refine lv_bipush (v := 9) hx hb d_M_plainModifiers_109 (by decide) ?_
    refine lv_isub hx hb d_M_plainModifiers_111 ?_
    refine va_iald hx hb hK hP 0 0 rfl rfl (m_pm c_1 ht2) d_M_plainModifiers_112 ?_
    exact ret_i hx hb hr hlk (hP.sub (ws' := []) [] rfl) (hD.sub (ws' := []) [] rfl rfl) hS (nar_i _) ⟨by rw [f_M_plainModifiers, if_pos c_1], rfl⟩ (by first | exact Nat.le_of_ble_eq_true rfl | (dsimp only; omega) | omega) (by first | exact Nat.le_of_ble_eq_true rfl | (dsimp only; omega) | omega) d_M_plainModifiers_113
  · skip
    refine lv_sipush (v := 1041) hx hb d_M_plainModifiers_6 (by decide) ?_
    exact ret_i hx hb hr hlk (hP.sub (ws' := []) [] rfl) (hD.sub (ws' := []) [] rfl rfl) hS (nar_i _) ⟨by rw [f_M_plainModifiers, if_neg c_1], rfl⟩ (by first | exact Nat.le_of_ble_eq_true rfl | (dsimp only; omega) | omega) (by first | exact Nat.le_of_ble_eq_true rfl | (dsimp only; omega) | omega) d_M_plainModifiers_9
def f_M_modifiers (t : Int32) : Int32 := (if t < 40 then (f_M_plainModifiers t) else (1040 + ((f_M_plainModifiers (f_M_plain t)) &&& 7)))
set_option maxRecDepth 100000 in
theorem k_M_modifiers : ck y_M_modifiers b_M_modifiers 2 (some .int) 1 (.instanceMethod y_M_modifiers) := ⟨tk_of (List.mem_of_getElem? (i := 797) rfl) rfl, tk_of (List.mem_of_getElem? (i := 796) (by decide +kernel)) rfl, tk_of (List.mem_of_getElem? (i := 43) (by decide +kernel)) rfl, by decide +kernel⟩
theorem j_M_177 : Cond.methodLink R_M 177 y_M_plainModifiers ∈ tk := tk_of (List.mem_of_getElem? (i := 798) (by decide +kernel)) rfl
theorem j_M_141 : Cond.methodLink R_M 141 y_M_plain ∈ tk := tk_of (List.mem_of_getElem? (i := 706) (by decide +kernel)) rfl
set_option maxHeartbeats 4000000 in
set_option maxRecDepth 100000 in
theorem c_M_modifiers (g : gT) (l : Launch) (sz : Nat) (h0 : Nat) (t : Int32) (j : Nat) (hj : j < 120) (ej : t = nI j) (hty : ¬ f_M_isType t = 0) : Mg g l y_M_modifiers b_M_modifiers 2 (some .int) 1 21 1 16 [.ref h0, .int t] [] sz (qI g (fun r w1 => r = f_M_modifiers t ∧ w1 = [])) := by
  refine mg_of (by decide) (Nat.le_of_ble_eq_true rfl) ?_
  intro p e s m below meth c ls A hx hb hF hr hlk hnm hA G hP hD hS hl
  have hK := G.2.1
  have hN := G.1
  have hl : lv_has ls 2 [(0, .ref h0), (1, .int t)] := hl
  refine lv_iload_n hx hb d_M_modifiers_0 rfl (lv_at hl 1 rfl) ?_
  refine lv_bipush (v := 40) hx hb d_M_modifiers_1 (by decide) ?_
  refine lv_icmp_lt (tgt := 21) hx hb d_M_modifiers_3 (by decide) (fun c_1 => ?_) (fun c_1 => ?_)
  · skip
    refine lv_iload_n hx hb d_M_modifiers_21 rfl (lv_at hl 1 rfl) ?_
    refine go_i (wr := []) (run_S hF (c_M_plainModifiers g l _ t (by rw [ej]; exact nI_pos (by omega)) (m_pl2 hj ej hty c_1)) k_M_plainModifiers j_M_177 (cw_down G hP hD hS hA [] rfl rfl) ⟨Nat.le_of_ble_eq_true rfl, Nat.le_of_ble_eq_true rfl⟩ rfl hl.1 (Nat.le_of_ble_eq_true rfl) d_M_modifiers_22 ⟨(by first | exact Nat.le_of_ble_eq_true rfl | (dsimp only; omega) | omega), (by first | exact Nat.le_of_ble_eq_true rfl | (dsimp only; omega) | omega)⟩) hP hD hS hA [] [] rfl rfl rfl (by decide) (fun r_2 w1 H locs hp hP hD hS => ?_)
    obtain ⟨rfl, rfl⟩ := hp
    have hP : va_P (gD g) classes [] H := hP
    have hD : va_D A [] := hD
    exact ret_i hx hb hr hlk (hP.sub (ws' := []) [] rfl) (hD.sub (ws' := []) [] rfl rfl) hS (nar_i _) ⟨by rw [f_M_modifiers, if_pos c_1], rfl⟩ (by first | exact Nat.le_of_ble_eq_true rfl | (dsimp only; omega) | omega) (by first | exact Nat.le_of_ble_eq_true rfl | (dsimp only; omega) | omega) d_M_modifiers_25
  · skip
    refine lv_sipush (v := 1040) hx hb d_M_modifiers_6 (by decide) ?_
    refine lv_iload_n hx hb d_M_modifiers_9 rfl (lv_at hl 1 rfl) ?_
    refine pm_callE hF hN (c_M_plain l t) k_M_plain j_M_141 ⟨Nat.le_of_ble_eq_true rfl, Nat.le_of_ble_eq_true rfl⟩ rfl hl.1 (Nat.le_of_ble_eq_true rfl) d_M_modifiers_10 ⟨by first | omega | exact Nat.zero_le _, by first | omega | exact Nat.zero_le _⟩ ?_
    refine go_i (wr := []) (run_S hF (c_M_plainModifiers g l _ (f_M_plain t) (m_pl0 hj ej) (m_plt hj ej hty)) k_M_plainModifiers j_M_177 (cw_down G hP hD hS hA [] rfl rfl) ⟨Nat.le_of_ble_eq_true rfl, Nat.le_of_ble_eq_true rfl⟩ rfl hl.1 (Nat.le_of_ble_eq_true rfl) d_M_modifiers_13 ⟨(by first | exact Nat.le_of_ble_eq_true rfl | (dsimp only; omega) | omega), (by first | exact Nat.le_of_ble_eq_true rfl | (dsimp only; omega) | omega)⟩) hP hD hS hA [] [] rfl rfl rfl (by decide) (fun r_4 w1 H locs hp hP hD hS => ?_)
    obtain ⟨rfl, rfl⟩ := hp
    have hP : va_P (gD g) classes [] H := hP
    have hD : va_D A [] := hD
    refine lv_bipush (v := 7) hx hb d_M_modifiers_16 (by decide) ?_
    refine lv_iand hx hb d_M_modifiers_18 ?_
    refine lv_iadd hx hb d_M_modifiers_19 ?_
    exact ret_i hx hb hr hlk (hP.sub (ws' := []) [] rfl) (hD.sub (ws' := []) [] rfl rfl) hS (nar_i _) ⟨by rw [f_M_modifiers, if_neg c_1], rfl⟩ (by first | exact Nat.le_of_ble_eq_true rfl | (dsimp only; omega) | omega) (by first | exact Nat.le_of_ble_eq_true rfl | (dsimp only; omega) | omega) d_M_modifiers_20
def f_M_number (t k : Int32) : Int32 := (if (f_M_isType t) = 0 then (-1) else (if (f_M_in k 0 7) = 0 then (-1) else (if k = 0 then (f_M_modifiers t) else (if k = 1 then (if 40 ≤ t then 2 else (if t = 15 then 2 else (if t = 14 then 1 else (if t = 20 then 1 else (if t = 21 then 1 else (if t = 23 then 1 else (if t = 24 then 1 else 0))))))) else (if k = 2 then (if t = 21 then 1 else 0) else (if k = 3 then (if t = 16 then 2 else (-2)) else (if k = 4 then (if t = 14 then 1 else (-2)) else (if k = 5 then (if t = 13 then 2 else (if t = 16 then 1 else (-2))) else (if k = 6 then (if t = 11 then 9 else (if t = 18 then 1 else 0)) else (if t = 9 then (-1) else (if t = 10 then (-1) else (if (f_M_in t 11 24) = 0 then 1 else 14))))))))))))
set_option maxRecDepth 100000 in
theorem k_M_number : ck y_M_number b_M_number 3 (some .int) 2 (.instanceMethod y_M_number) := ⟨tk_of (List.mem_of_getElem? (i := 822) rfl) rfl, tk_of (List.mem_of_getElem? (i := 820) (by decide +kernel)) rfl, tk_of (List.mem_of_getElem? (i := 43) (by decide +kernel)) rfl, by decide +kernel⟩
theorem j_M_116 : Cond.methodLink R_M 116 y_M_modifiers ∈ tk := tk_of (List.mem_of_getElem? (i := 794) (by decide +kernel)) rfl
theorem se_M_M_modifiers : Cond.selects R_M y_M_modifiers y_M_modifiers ∈ tk := tk_of (List.mem_of_getElem? (i := 30) (by decide +kernel)) rfl
set_option maxHeartbeats 4000000 in
set_option maxRecDepth 100000 in
theorem c_M_number (g : gT) (l : Launch) (sz : Nat) (h0 a1 a2 a3 a4 : Nat) (n1 n2 n3 : Int32) (t k : Int32) : Mg g l y_M_number b_M_number 3 (some .int) 2 42 1 16 [.ref h0, .int t, .int k] [(h0, .inr (4, [.ref a1, .int n1, .ref a2, .int n2, .ref a3, .ref a4, .int n3]))] sz (qI g (fun r w1 => r = f_M_number t k ∧ w1 = [(h0, .inr (4, [.ref a1, .int n1, .ref a2, .int n2, .ref a3, .ref a4, .int n3]))])) := by
  refine mg_of (by decide) (Nat.le_of_ble_eq_true rfl) ?_
  intro p e s m below meth c ls A hx hb hF hr hlk hnm hA G hP hD hS hl
  have hK := G.2.1
  have hN := G.1
  have hl : lv_has ls 3 [(0, .ref h0), (1, .int t), (2, .int k)] := hl
  refine lv_iload_n hx hb d_M_number_0 rfl (lv_at hl 1 rfl) ?_
  refine pm_callE hF hN (c_M_isType l t) k_M_isType j_M_167 ⟨Nat.le_of_ble_eq_true rfl, Nat.le_of_ble_eq_true rfl⟩ rfl hl.1 (Nat.le_of_ble_eq_true rfl) d_M_number_1 ⟨by first | omega | exact Nat.zero_le _, by first | omega | exact Nat.zero_le _⟩ ?_
  refine lv_if_eq (tgt := 17) hx hb d_M_number_4 (by decide) (fun c_2 => ?_) (fun c_2 => ?_)
  · skip
    refine lv_iconst (v := (-1)) hx hb d_M_number_17 (by decide) ?_
    exact ret_i hx hb hr hlk (hP.sub (ws' := [(h0, .inr (4, [.ref a1, .int n1, .ref a2, .int n2, .ref a3, .ref a4, .int n3]))]) [0] rfl) (hD.sub (ws' := [(h0, .inr (4, [.ref a1, .int n1, .ref a2, .int n2, .ref a3, .ref a4, .int n3]))]) [0] rfl rfl) hS (nar_i _) ⟨by rw [f_M_number, if_pos c_2], rfl⟩ (by first | exact Nat.le_of_ble_eq_true rfl | (dsimp only; omega) | omega) (by first | exact Nat.le_of_ble_eq_true rfl | (dsimp only; omega) | omega) d_M_number_18
  · skip
    refine lv_iload_n hx hb d_M_number_7 rfl (lv_at hl 2 rfl) ?_
    refine lv_iconst (v := 0) hx hb d_M_number_8 (by decide) ?_
    refine lv_bipush (v := 7) hx hb d_M_number_9 (by decide) ?_
    refine pm_callE hF hN (c_M_in l k 0 7) k_M_in j_M_26 ⟨Nat.le_of_ble_eq_true rfl, Nat.le_of_ble_eq_true rfl⟩ rfl hl.1 (Nat.le_of_ble_eq_true rfl) d_M_number_11 ⟨by first | omega | exact Nat.zero_le _, by first | omega | exact Nat.zero_le _⟩ ?_
    refine lv_if_ne (tgt := 19) hx hb d_M_number_14 (by decide) (fun c_4 => ?_) (fun c_4 => ?_)
    · skip
      refine lv_iload_n hx hb d_M_number_19 rfl (lv_at hl 2 rfl) ?_
      by_cases c_5 : k = 0
      · refine lv_tableIn (tgt := 64) (off := 44) hx hb d_M_number_20 (by rw [c_5]; decide) (by rw [c_5]; decide) (by rw [c_5]; decide) (by decide) ?_
        refine lv_aload_n hx hb d_M_number_64 rfl (lv_at hl 0 rfl) ?_
        refine lv_iload_n hx hb d_M_number_65 rfl (lv_at hl 1 rfl) ?_
        obtain ⟨j, hj, ej⟩ := isT_nI c_2
        refine go_i (wr := [(h0, .inr (4, [.ref a1, .int n1, .ref a2, .int n2, .ref a3, .ref a4, .int n3]))]) (run_V hF (c_M_modifiers g l _ h0 t j hj ej c_2) k_M_modifiers j_M_116 se_M_M_modifiers (va_recv hK hP (ci := 4) (q0 := 0) rfl rfl) (cw_down G hP hD hS hA [] rfl rfl) ⟨Nat.le_of_ble_eq_true rfl, Nat.le_of_ble_eq_true rfl⟩ rfl hl.1 (Nat.le_of_ble_eq_true rfl) d_M_number_66 ⟨(by first | exact Nat.le_of_ble_eq_true rfl | (dsimp only; omega) | omega), (by first | exact Nat.le_of_ble_eq_true rfl | (dsimp only; omega) | omega)⟩) hP hD hS hA [] [0] rfl rfl rfl (by decide) (fun r_6 w1 H locs hp hP hD hS => ?_)
        obtain ⟨rfl, rfl⟩ := hp
        have hP : va_P (gD g) classes [(h0, .inr (4, [.ref a1, .int n1, .ref a2, .int n2, .ref a3, .ref a4, .int n3]))] H := hP
        have hD : va_D A [(h0, .inr (4, [.ref a1, .int n1, .ref a2, .int n2, .ref a3, .ref a4, .int n3]))] := hD
        exact ret_i hx hb hr hlk (hP.sub (ws' := [(h0, .inr (4, [.ref a1, .int n1, .ref a2, .int n2, .ref a3, .ref a4, .int n3]))]) [0] rfl) (hD.sub (ws' := [(h0, .inr (4, [.ref a1, .int n1, .ref a2, .int n2, .ref a3, .ref a4, .int n3]))]) [0] rfl rfl) hS (nar_i _) ⟨by rw [f_M_number, if_neg c_2, if_neg c_4, if_pos c_5], rfl⟩ (by first | exact Nat.le_of_ble_eq_true rfl | (dsimp only; omega) | omega) (by first | exact Nat.le_of_ble_eq_true rfl | (dsimp only; omega) | omega) d_M_number_69
      by_cases c_7 : k = 1
      · refine lv_tableIn (tgt := 70) (off := 50) hx hb d_M_number_20 (by rw [c_7]; decide) (by rw [c_7]; decide) (by rw [c_7]; decide) (by decide) ?_
        refine lv_iload_n hx hb d_M_number_70 rfl (lv_at hl 1 rfl) ?_
        refine lv_bipush (v := 40) hx hb d_M_number_71 (by decide) ?_
        refine lv_icmp_ge (tgt := 82) hx hb d_M_number_73 (by decide) (fun c_8 => ?_) (fun c_8 => ?_)
        · skip
          refine lv_iconst (v := 2) hx hb d_M_number_82 (by decide) ?_
          refine lv_goto (tgt := 121) hx hb d_M_number_83 (by decide) ?_
          exact ret_i hx hb hr hlk (hP.sub (ws' := [(h0, .inr (4, [.ref a1, .int n1, .ref a2, .int n2, .ref a3, .ref a4, .int n3]))]) [0] rfl) (hD.sub (ws' := [(h0, .inr (4, [.ref a1, .int n1, .ref a2, .int n2, .ref a3, .ref a4, .int n3]))]) [0] rfl rfl) hS (nar_i _) ⟨by rw [f_M_number, if_neg c_2, if_neg c_4, if_neg c_5, if_pos c_7, if_pos c_8], rfl⟩ (by first | exact Nat.le_of_ble_eq_true rfl | (dsimp only; omega) | omega) (by first | exact Nat.le_of_ble_eq_true rfl | (dsimp only; omega) | omega) d_M_number_121
        · skip
          refine lv_iload_n hx hb d_M_number_76 rfl (lv_at hl 1 rfl) ?_
          refine lv_bipush (v := 15) hx hb d_M_number_77 (by decide) ?_
          refine lv_icmp_ne (tgt := 86) hx hb d_M_number_79 (by decide) (fun c_9 => ?_) (fun c_9 => ?_)
          · skip
            refine lv_iload_n hx hb d_M_number_86 rfl (lv_at hl 1 rfl) ?_
            refine lv_bipush (v := 14) hx hb d_M_number_87 (by decide) ?_
            refine lv_icmp_eq (tgt := 116) hx hb d_M_number_89 (by decide) (fun c_10 => ?_) (fun c_10 => ?_)
            · skip
              refine lv_iconst (v := 1) hx hb d_M_number_116 (by decide) ?_
              refine lv_goto (tgt := 121) hx hb d_M_number_117 (by decide) ?_
              exact ret_i hx hb hr hlk (hP.sub (ws' := [(h0, .inr (4, [.ref a1, .int n1, .ref a2, .int n2, .ref a3, .ref a4, .int n3]))]) [0] rfl) (hD.sub (ws' := [(h0, .inr (4, [.ref a1, .int n1, .ref a2, .int n2, .ref a3, .ref a4, .int n3]))]) [0] rfl rfl) hS (nar_i _) ⟨by rw [f_M_number, if_neg c_2, if_neg c_4, if_neg c_5, if_pos c_7, if_neg c_8, if_neg c_9, if_pos c_10], rfl⟩ (by first | exact Nat.le_of_ble_eq_true rfl | (dsimp only; omega) | omega) (by first | exact Nat.le_of_ble_eq_true rfl | (dsimp only; omega) | omega) d_M_number_121
            · skip
              refine lv_iload_n hx hb d_M_number_92 rfl (lv_at hl 1 rfl) ?_
              refine lv_bipush (v := 20) hx hb d_M_number_93 (by decide) ?_
              refine lv_icmp_eq (tgt := 116) hx hb d_M_number_95 (by decide) (fun c_11 => ?_) (fun c_11 => ?_)
              · skip
                refine lv_iconst (v := 1) hx hb d_M_number_116 (by decide) ?_
                refine lv_goto (tgt := 121) hx hb d_M_number_117 (by decide) ?_
                exact ret_i hx hb hr hlk (hP.sub (ws' := [(h0, .inr (4, [.ref a1, .int n1, .ref a2, .int n2, .ref a3, .ref a4, .int n3]))]) [0] rfl) (hD.sub (ws' := [(h0, .inr (4, [.ref a1, .int n1, .ref a2, .int n2, .ref a3, .ref a4, .int n3]))]) [0] rfl rfl) hS (nar_i _) ⟨by rw [f_M_number, if_neg c_2, if_neg c_4, if_neg c_5, if_pos c_7, if_neg c_8, if_neg c_9, if_neg c_10, if_pos c_11], rfl⟩ (by first | exact Nat.le_of_ble_eq_true rfl | (dsimp only; omega) | omega) (by first | exact Nat.le_of_ble_eq_true rfl | (dsimp only; omega) | omega) d_M_number_121
              · skip
                refine lv_iload_n hx hb d_M_number_98 rfl (lv_at hl 1 rfl) ?_
                refine lv_bipush (v := 21) hx hb d_M_number_99 (by decide) ?_
                refine lv_icmp_eq (tgt := 116) hx hb d_M_number_101 (by decide) (fun c_12 => ?_) (fun c_12 => ?_)
                · skip
                  refine lv_iconst (v := 1) hx hb d_M_number_116 (by decide) ?_
                  refine lv_goto (tgt := 121) hx hb d_M_number_117 (by decide) ?_
                  exact ret_i hx hb hr hlk (hP.sub (ws' := [(h0, .inr (4, [.ref a1, .int n1, .ref a2, .int n2, .ref a3, .ref a4, .int n3]))]) [0] rfl) (hD.sub (ws' := [(h0, .inr (4, [.ref a1, .int n1, .ref a2, .int n2, .ref a3, .ref a4, .int n3]))]) [0] rfl rfl) hS (nar_i _) ⟨by rw [f_M_number, if_neg c_2, if_neg c_4, if_neg c_5, if_pos c_7, if_neg c_8, if_neg c_9, if_neg c_10, if_neg c_11, if_pos c_12], rfl⟩ (by first | exact Nat.le_of_ble_eq_true rfl | (dsimp only; omega) | omega) (by first | exact Nat.le_of_ble_eq_true rfl | (dsimp only; omega) | omega) d_M_number_121
                · skip
                  refine lv_iload_n hx hb d_M_number_104 rfl (lv_at hl 1 rfl) ?_
                  refine lv_bipush (v := 23) hx hb d_M_number_105 (by decide) ?_
                  refine lv_icmp_eq (tgt := 116) hx hb d_M_number_107 (by decide) (fun c_13 => ?_) (fun c_13 => ?_)
                  · skip
                    refine lv_iconst (v := 1) hx hb d_M_number_116 (by decide) ?_
                    refine lv_goto (tgt := 121) hx hb d_M_number_117 (by decide) ?_
                    exact ret_i hx hb hr hlk (hP.sub (ws' := [(h0, .inr (4, [.ref a1, .int n1, .ref a2, .int n2, .ref a3, .ref a4, .int n3]))]) [0] rfl) (hD.sub (ws' := [(h0, .inr (4, [.ref a1, .int n1, .ref a2, .int n2, .ref a3, .ref a4, .int n3]))]) [0] rfl rfl) hS (nar_i _) ⟨by rw [f_M_number, if_neg c_2, if_neg c_4, if_neg c_5, if_pos c_7, if_neg c_8, if_neg c_9, if_neg c_10, if_neg c_11, if_neg c_12, if_pos c_13], rfl⟩ (by first | exact Nat.le_of_ble_eq_true rfl | (dsimp only; omega) | omega) (by first | exact Nat.le_of_ble_eq_true rfl | (dsimp only; omega) | omega) d_M_number_121
                  · skip
                    refine lv_iload_n hx hb d_M_number_110 rfl (lv_at hl 1 rfl) ?_
                    refine lv_bipush (v := 24) hx hb d_M_number_111 (by decide) ?_
                    refine lv_icmp_ne (tgt := 120) hx hb d_M_number_113 (by decide) (fun c_14 => ?_) (fun c_14 => ?_)
                    · skip
                      refine lv_iconst (v := 0) hx hb d_M_number_120 (by decide) ?_
                      exact ret_i hx hb hr hlk (hP.sub (ws' := [(h0, .inr (4, [.ref a1, .int n1, .ref a2, .int n2, .ref a3, .ref a4, .int n3]))]) [0] rfl) (hD.sub (ws' := [(h0, .inr (4, [.ref a1, .int n1, .ref a2, .int n2, .ref a3, .ref a4, .int n3]))]) [0] rfl rfl) hS (nar_i _) ⟨by rw [f_M_number, if_neg c_2, if_neg c_4, if_neg c_5, if_pos c_7, if_neg c_8, if_neg c_9, if_neg c_10, if_neg c_11, if_neg c_12, if_neg c_13, if_neg c_14], rfl⟩ (by first | exact Nat.le_of_ble_eq_true rfl | (dsimp only; omega) | omega) (by first | exact Nat.le_of_ble_eq_true rfl | (dsimp only; omega) | omega) d_M_number_121
                    · skip
                      refine lv_iconst (v := 1) hx hb d_M_number_116 (by decide) ?_
                      refine lv_goto (tgt := 121) hx hb d_M_number_117 (by decide) ?_
                      exact ret_i hx hb hr hlk (hP.sub (ws' := [(h0, .inr (4, [.ref a1, .int n1, .ref a2, .int n2, .ref a3, .ref a4, .int n3]))]) [0] rfl) (hD.sub (ws' := [(h0, .inr (4, [.ref a1, .int n1, .ref a2, .int n2, .ref a3, .ref a4, .int n3]))]) [0] rfl rfl) hS (nar_i _) ⟨by rw [f_M_number, if_neg c_2, if_neg c_4, if_neg c_5, if_pos c_7, if_neg c_8, if_neg c_9, if_neg c_10, if_neg c_11, if_neg c_12, if_neg c_13, if_pos c_14], rfl⟩ (by first | exact Nat.le_of_ble_eq_true rfl | (dsimp only; omega) | omega) (by first | exact Nat.le_of_ble_eq_true rfl | (dsimp only; omega) | omega) d_M_number_121
          · skip
            refine lv_iconst (v := 2) hx hb d_M_number_82 (by decide) ?_
            refine lv_goto (tgt := 121) hx hb d_M_number_83 (by decide) ?_
            exact ret_i hx hb hr hlk (hP.sub (ws' := [(h0, .inr (4, [.ref a1, .int n1, .ref a2, .int n2, .ref a3, .ref a4, .int n3]))]) [0] rfl) (hD.sub (ws' := [(h0, .inr (4, [.ref a1, .int n1, .ref a2, .int n2, .ref a3, .ref a4, .int n3]))]) [0] rfl rfl) hS (nar_i _) ⟨by rw [f_M_number, if_neg c_2, if_neg c_4, if_neg c_5, if_pos c_7, if_neg c_8, if_pos c_9], rfl⟩ (by first | exact Nat.le_of_ble_eq_true rfl | (dsimp only; omega) | omega) (by first | exact Nat.le_of_ble_eq_true rfl | (dsimp only; omega) | omega) d_M_number_121
      by_cases c_15 : k = 2
      · refine lv_tableIn (tgt := 122) (off := 102) hx hb d_M_number_20 (by rw [c_15]; decide) (by rw [c_15]; decide) (by rw [c_15]; decide) (by decide) ?_
        refine lv_iload_n hx hb d_M_number_122 rfl (lv_at hl 1 rfl) ?_
        refine lv_bipush (v := 21) hx hb d_M_number_123 (by decide) ?_
        refine lv_icmp_ne (tgt := 132) hx hb d_M_number_125 (by decide) (fun c_16 => ?_) (fun c_16 => ?_)
        · skip
          refine lv_iconst (v := 0) hx hb d_M_number_132 (by decide) ?_
          exact ret_i hx hb hr hlk (hP.sub (ws' := [(h0, .inr (4, [.ref a1, .int n1, .ref a2, .int n2, .ref a3, .ref a4, .int n3]))]) [0] rfl) (hD.sub (ws' := [(h0, .inr (4, [.ref a1, .int n1, .ref a2, .int n2, .ref a3, .ref a4, .int n3]))]) [0] rfl rfl) hS (nar_i _) ⟨by rw [f_M_number, if_neg c_2, if_neg c_4, if_neg c_5, if_neg c_7, if_pos c_15, if_neg c_16], rfl⟩ (by first | exact Nat.le_of_ble_eq_true rfl | (dsimp only; omega) | omega) (by first | exact Nat.le_of_ble_eq_true rfl | (dsimp only; omega) | omega) d_M_number_133
        · skip
          refine lv_iconst (v := 1) hx hb d_M_number_128 (by decide) ?_
          refine lv_goto (tgt := 133) hx hb d_M_number_129 (by decide) ?_
          exact ret_i hx hb hr hlk (hP.sub (ws' := [(h0, .inr (4, [.ref a1, .int n1, .ref a2, .int n2, .ref a3, .ref a4, .int n3]))]) [0] rfl) (hD.sub (ws' := [(h0, .inr (4, [.ref a1, .int n1, .ref a2, .int n2, .ref a3, .ref a4, .int n3]))]) [0] rfl rfl) hS (nar_i _) ⟨by rw [f_M_number, if_neg c_2, if_neg c_4, if_neg c_5, if_neg c_7, if_pos c_15, if_pos c_16], rfl⟩ (by first | exact Nat.le_of_ble_eq_true rfl | (dsimp only; omega) | omega) (by first | exact Nat.le_of_ble_eq_true rfl | (dsimp only; omega) | omega) d_M_number_133
      by_cases c_17 : k = 3
      · refine lv_tableIn (tgt := 134) (off := 114) hx hb d_M_number_20 (by rw [c_17]; decide) (by rw [c_17]; decide) (by rw [c_17]; decide) (by decide) ?_
        refine lv_iload_n hx hb d_M_number_134 rfl (lv_at hl 1 rfl) ?_
        refine lv_bipush (v := 16) hx hb d_M_number_135 (by decide) ?_
        refine lv_icmp_ne (tgt := 144) hx hb d_M_number_137 (by decide) (fun c_18 => ?_) (fun c_18 => ?_)
        · skip
          refine lv_bipush (v := (-2)) hx hb d_M_number_144 (by decide) ?_
          exact ret_i hx hb hr hlk (hP.sub (ws' := [(h0, .inr (4, [.ref a1, .int n1, .ref a2, .int n2, .ref a3, .ref a4, .int n3]))]) [0] rfl) (hD.sub (ws' := [(h0, .inr (4, [.ref a1, .int n1, .ref a2, .int n2, .ref a3, .ref a4, .int n3]))]) [0] rfl rfl) hS (nar_i _) ⟨by rw [f_M_number, if_neg c_2, if_neg c_4, if_neg c_5, if_neg c_7, if_neg c_15, if_pos c_17, if_neg c_18], rfl⟩ (by first | exact Nat.le_of_ble_eq_true rfl | (dsimp only; omega) | omega) (by first | exact Nat.le_of_ble_eq_true rfl | (dsimp only; omega) | omega) d_M_number_146
        · skip
          refine lv_iconst (v := 2) hx hb d_M_number_140 (by decide) ?_
          refine lv_goto (tgt := 146) hx hb d_M_number_141 (by decide) ?_
          exact ret_i hx hb hr hlk (hP.sub (ws' := [(h0, .inr (4, [.ref a1, .int n1, .ref a2, .int n2, .ref a3, .ref a4, .int n3]))]) [0] rfl) (hD.sub (ws' := [(h0, .inr (4, [.ref a1, .int n1, .ref a2, .int n2, .ref a3, .ref a4, .int n3]))]) [0] rfl rfl) hS (nar_i _) ⟨by rw [f_M_number, if_neg c_2, if_neg c_4, if_neg c_5, if_neg c_7, if_neg c_15, if_pos c_17, if_pos c_18], rfl⟩ (by first | exact Nat.le_of_ble_eq_true rfl | (dsimp only; omega) | omega) (by first | exact Nat.le_of_ble_eq_true rfl | (dsimp only; omega) | omega) d_M_number_146
      by_cases c_19 : k = 4
      · refine lv_tableIn (tgt := 147) (off := 127) hx hb d_M_number_20 (by rw [c_19]; decide) (by rw [c_19]; decide) (by rw [c_19]; decide) (by decide) ?_
        refine lv_iload_n hx hb d_M_number_147 rfl (lv_at hl 1 rfl) ?_
        refine lv_bipush (v := 14) hx hb d_M_number_148 (by decide) ?_
        refine lv_icmp_ne (tgt := 157) hx hb d_M_number_150 (by decide) (fun c_20 => ?_) (fun c_20 => ?_)
        · skip
          refine lv_bipush (v := (-2)) hx hb d_M_number_157 (by decide) ?_
          exact ret_i hx hb hr hlk (hP.sub (ws' := [(h0, .inr (4, [.ref a1, .int n1, .ref a2, .int n2, .ref a3, .ref a4, .int n3]))]) [0] rfl) (hD.sub (ws' := [(h0, .inr (4, [.ref a1, .int n1, .ref a2, .int n2, .ref a3, .ref a4, .int n3]))]) [0] rfl rfl) hS (nar_i _) ⟨by rw [f_M_number, if_neg c_2, if_neg c_4, if_neg c_5, if_neg c_7, if_neg c_15, if_neg c_17, if_pos c_19, if_neg c_20], rfl⟩ (by first | exact Nat.le_of_ble_eq_true rfl | (dsimp only; omega) | omega) (by first | exact Nat.le_of_ble_eq_true rfl | (dsimp only; omega) | omega) d_M_number_159
        · skip
          refine lv_iconst (v := 1) hx hb d_M_number_153 (by decide) ?_
          refine lv_goto (tgt := 159) hx hb d_M_number_154 (by decide) ?_
          exact ret_i hx hb hr hlk (hP.sub (ws' := [(h0, .inr (4, [.ref a1, .int n1, .ref a2, .int n2, .ref a3, .ref a4, .int n3]))]) [0] rfl) (hD.sub (ws' := [(h0, .inr (4, [.ref a1, .int n1, .ref a2, .int n2, .ref a3, .ref a4, .int n3]))]) [0] rfl rfl) hS (nar_i _) ⟨by rw [f_M_number, if_neg c_2, if_neg c_4, if_neg c_5, if_neg c_7, if_neg c_15, if_neg c_17, if_pos c_19, if_pos c_20], rfl⟩ (by first | exact Nat.le_of_ble_eq_true rfl | (dsimp only; omega) | omega) (by first | exact Nat.le_of_ble_eq_true rfl | (dsimp only; omega) | omega) d_M_number_159
      by_cases c_21 : k = 5
      · refine lv_tableIn (tgt := 160) (off := 140) hx hb d_M_number_20 (by rw [c_21]; decide) (by rw [c_21]; decide) (by rw [c_21]; decide) (by decide) ?_
        refine lv_iload_n hx hb d_M_number_160 rfl (lv_at hl 1 rfl) ?_
        refine lv_bipush (v := 13) hx hb d_M_number_161 (by decide) ?_
        refine lv_icmp_ne (tgt := 170) hx hb d_M_number_163 (by decide) (fun c_22 => ?_) (fun c_22 => ?_)
        · skip
          refine lv_iload_n hx hb d_M_number_170 rfl (lv_at hl 1 rfl) ?_
          refine lv_bipush (v := 16) hx hb d_M_number_171 (by decide) ?_
          refine lv_icmp_ne (tgt := 180) hx hb d_M_number_173 (by decide) (fun c_23 => ?_) (fun c_23 => ?_)
          · skip
            refine lv_bipush (v := (-2)) hx hb d_M_number_180 (by decide) ?_
            exact ret_i hx hb hr hlk (hP.sub (ws' := [(h0, .inr (4, [.ref a1, .int n1, .ref a2, .int n2, .ref a3, .ref a4, .int n3]))]) [0] rfl) (hD.sub (ws' := [(h0, .inr (4, [.ref a1, .int n1, .ref a2, .int n2, .ref a3, .ref a4, .int n3]))]) [0] rfl rfl) hS (nar_i _) ⟨by rw [f_M_number, if_neg c_2, if_neg c_4, if_neg c_5, if_neg c_7, if_neg c_15, if_neg c_17, if_neg c_19, if_pos c_21, if_neg c_22, if_neg c_23], rfl⟩ (by first | exact Nat.le_of_ble_eq_true rfl | (dsimp only; omega) | omega) (by first | exact Nat.le_of_ble_eq_true rfl | (dsimp only; omega) | omega) d_M_number_182
          · skip
            refine lv_iconst (v := 1) hx hb d_M_number_176 (by decide) ?_
            refine lv_goto (tgt := 182) hx hb d_M_number_177 (by decide) ?_
            exact ret_i hx hb hr hlk (hP.sub (ws' := [(h0, .inr (4, [.ref a1, .int n1, .ref a2, .int n2, .ref a3, .ref a4, .int n3]))]) [0] rfl) (hD.sub (ws' := [(h0, .inr (4, [.ref a1, .int n1, .ref a2, .int n2, .ref a3, .ref a4, .int n3]))]) [0] rfl rfl) hS (nar_i _) ⟨by rw [f_M_number, if_neg c_2, if_neg c_4, if_neg c_5, if_neg c_7, if_neg c_15, if_neg c_17, if_neg c_19, if_pos c_21, if_neg c_22, if_pos c_23], rfl⟩ (by first | exact Nat.le_of_ble_eq_true rfl | (dsimp only; omega) | omega) (by first | exact Nat.le_of_ble_eq_true rfl | (dsimp only; omega) | omega) d_M_number_182
        · skip
          refine lv_iconst (v := 2) hx hb d_M_number_166 (by decide) ?_
          refine lv_goto (tgt := 182) hx hb d_M_number_167 (by decide) ?_
          exact ret_i hx hb hr hlk (hP.sub (ws' := [(h0, .inr (4, [.ref a1, .int n1, .ref a2, .int n2, .ref a3, .ref a4, .int n3]))]) [0] rfl) (hD.sub (ws' := [(h0, .inr (4, [.ref a1, .int n1, .ref a2, .int n2, .ref a3, .ref a4, .int n3]))]) [0] rfl rfl) hS (nar_i _) ⟨by rw [f_M_number, if_neg c_2, if_neg c_4, if_neg c_5, if_neg c_7, if_neg c_15, if_neg c_17, if_neg c_19, if_pos c_21, if_pos c_22], rfl⟩ (by first | exact Nat.le_of_ble_eq_true rfl | (dsimp only; omega) | omega) (by first | exact Nat.le_of_ble_eq_true rfl | (dsimp only; omega) | omega) d_M_number_182
      by_cases c_24 : k = 6
      · refine lv_tableIn (tgt := 183) (off := 163) hx hb d_M_number_20 (by rw [c_24]; decide) (by rw [c_24]; decide) (by rw [c_24]; decide) (by decide) ?_
        refine lv_iload_n hx hb d_M_number_183 rfl (lv_at hl 1 rfl) ?_
        refine lv_bipush (v := 11) hx hb d_M_number_184 (by decide) ?_
        refine lv_icmp_ne (tgt := 194) hx hb d_M_number_186 (by decide) (fun c_25 => ?_) (fun c_25 => ?_)
        · skip
          refine lv_iload_n hx hb d_M_number_194 rfl (lv_at hl 1 rfl) ?_
          refine lv_bipush (v := 18) hx hb d_M_number_195 (by decide) ?_
          refine lv_icmp_ne (tgt := 204) hx hb d_M_number_197 (by decide) (fun c_26 => ?_) (fun c_26 => ?_)
          · skip
            refine lv_iconst (v := 0) hx hb d_M_number_204 (by decide) ?_
            exact ret_i hx hb hr hlk (hP.sub (ws' := [(h0, .inr (4, [.ref a1, .int n1, .ref a2, .int n2, .ref a3, .ref a4, .int n3]))]) [0] rfl) (hD.sub (ws' := [(h0, .inr (4, [.ref a1, .int n1, .ref a2, .int n2, .ref a3, .ref a4, .int n3]))]) [0] rfl rfl) hS (nar_i _) ⟨by rw [f_M_number, if_neg c_2, if_neg c_4, if_neg c_5, if_neg c_7, if_neg c_15, if_neg c_17, if_neg c_19, if_neg c_21, if_pos c_24, if_neg c_25, if_neg c_26], rfl⟩ (by first | exact Nat.le_of_ble_eq_true rfl | (dsimp only; omega) | omega) (by first | exact Nat.le_of_ble_eq_true rfl | (dsimp only; omega) | omega) d_M_number_205
          · skip
            refine lv_iconst (v := 1) hx hb d_M_number_200 (by decide) ?_
            refine lv_goto (tgt := 205) hx hb d_M_number_201 (by decide) ?_
            exact ret_i hx hb hr hlk (hP.sub (ws' := [(h0, .inr (4, [.ref a1, .int n1, .ref a2, .int n2, .ref a3, .ref a4, .int n3]))]) [0] rfl) (hD.sub (ws' := [(h0, .inr (4, [.ref a1, .int n1, .ref a2, .int n2, .ref a3, .ref a4, .int n3]))]) [0] rfl rfl) hS (nar_i _) ⟨by rw [f_M_number, if_neg c_2, if_neg c_4, if_neg c_5, if_neg c_7, if_neg c_15, if_neg c_17, if_neg c_19, if_neg c_21, if_pos c_24, if_neg c_25, if_pos c_26], rfl⟩ (by first | exact Nat.le_of_ble_eq_true rfl | (dsimp only; omega) | omega) (by first | exact Nat.le_of_ble_eq_true rfl | (dsimp only; omega) | omega) d_M_number_205
        · skip
          refine lv_bipush (v := 9) hx hb d_M_number_189 (by decide) ?_
          refine lv_goto (tgt := 205) hx hb d_M_number_191 (by decide) ?_
          exact ret_i hx hb hr hlk (hP.sub (ws' := [(h0, .inr (4, [.ref a1, .int n1, .ref a2, .int n2, .ref a3, .ref a4, .int n3]))]) [0] rfl) (hD.sub (ws' := [(h0, .inr (4, [.ref a1, .int n1, .ref a2, .int n2, .ref a3, .ref a4, .int n3]))]) [0] rfl rfl) hS (nar_i _) ⟨by rw [f_M_number, if_neg c_2, if_neg c_4, if_neg c_5, if_neg c_7, if_neg c_15, if_neg c_17, if_neg c_19, if_neg c_21, if_pos c_24, if_pos c_25], rfl⟩ (by first | exact Nat.le_of_ble_eq_true rfl | (dsimp only; omega) | omega) (by first | exact Nat.le_of_ble_eq_true rfl | (dsimp only; omega) | omega) d_M_number_205
      refine lv_tableOut (tgt := 206) hx hb d_M_number_20 (by have := lv_neT (a := 0) c_5 (by decide); have := lv_neT (a := 1) c_7 (by decide); have := lv_neT (a := 2) c_15 (by decide); have := lv_neT (a := 3) c_17 (by decide); have := lv_neT (a := 4) c_19 (by decide); have := lv_neT (a := 5) c_21 (by decide); have := lv_neT (a := 6) c_24 (by decide); omega) (by decide) ?_
      refine lv_iload_n hx hb d_M_number_206 rfl (lv_at hl 1 rfl) ?_
      refine lv_bipush (v := 9) hx hb d_M_number_207 (by decide) ?_
      refine lv_icmp_eq (tgt := 218) hx hb d_M_number_209 (by decide) (fun c_27 => ?_) (fun c_27 => ?_)
      · skip
        refine lv_iconst (v := (-1)) hx hb d_M_number_218 (by decide) ?_
        refine lv_goto (tgt := 239) hx hb d_M_number_219 (by decide) ?_
        exact ret_i hx hb hr hlk (hP.sub (ws' := [(h0, .inr (4, [.ref a1, .int n1, .ref a2, .int n2, .ref a3, .ref a4, .int n3]))]) [0] rfl) (hD.sub (ws' := [(h0, .inr (4, [.ref a1, .int n1, .ref a2, .int n2, .ref a3, .ref a4, .int n3]))]) [0] rfl rfl) hS (nar_i _) ⟨by rw [f_M_number, if_neg c_2, if_neg c_4, if_neg c_5, if_neg c_7, if_neg c_15, if_neg c_17, if_neg c_19, if_neg c_21, if_neg c_24, if_pos c_27], rfl⟩ (by first | exact Nat.le_of_ble_eq_true rfl | (dsimp only; omega) | omega) (by first | exact Nat.le_of_ble_eq_true rfl | (dsimp only; omega) | omega) d_M_number_239
      · skip
        refine lv_iload_n hx hb d_M_number_212 rfl (lv_at hl 1 rfl) ?_
        refine lv_bipush (v := 10) hx hb d_M_number_213 (by decide) ?_
        refine lv_icmp_ne (tgt := 222) hx hb d_M_number_215 (by decide) (fun c_28 => ?_) (fun c_28 => ?_)
        · skip
          refine lv_iload_n hx hb d_M_number_222 rfl (lv_at hl 1 rfl) ?_
          refine lv_bipush (v := 11) hx hb d_M_number_223 (by decide) ?_
          refine lv_bipush (v := 24) hx hb d_M_number_225 (by decide) ?_
          refine pm_callE hF hN (c_M_in l t 11 24) k_M_in j_M_26 ⟨Nat.le_of_ble_eq_true rfl, Nat.le_of_ble_eq_true rfl⟩ rfl hl.1 (Nat.le_of_ble_eq_true rfl) d_M_number_227 ⟨by first | omega | exact Nat.zero_le _, by first | omega | exact Nat.zero_le _⟩ ?_
          refine lv_if_eq (tgt := 238) hx hb d_M_number_230 (by decide) (fun c_30 => ?_) (fun c_30 => ?_)
          · skip
            refine lv_iconst (v := 1) hx hb d_M_number_238 (by decide) ?_
            exact ret_i hx hb hr hlk (hP.sub (ws' := [(h0, .inr (4, [.ref a1, .int n1, .ref a2, .int n2, .ref a3, .ref a4, .int n3]))]) [0] rfl) (hD.sub (ws' := [(h0, .inr (4, [.ref a1, .int n1, .ref a2, .int n2, .ref a3, .ref a4, .int n3]))]) [0] rfl rfl) hS (nar_i _) ⟨by rw [f_M_number, if_neg c_2, if_neg c_4, if_neg c_5, if_neg c_7, if_neg c_15, if_neg c_17, if_neg c_19, if_neg c_21, if_neg c_24, if_neg c_27, if_neg c_28, if_pos c_30], rfl⟩ (by first | exact Nat.le_of_ble_eq_true rfl | (dsimp only; omega) | omega) (by first | exact Nat.le_of_ble_eq_true rfl | (dsimp only; omega) | omega) d_M_number_239
          · skip
            refine lv_bipush (v := 14) hx hb d_M_number_233 (by decide) ?_
            refine lv_goto (tgt := 239) hx hb d_M_number_235 (by decide) ?_
            exact ret_i hx hb hr hlk (hP.sub (ws' := [(h0, .inr (4, [.ref a1, .int n1, .ref a2, .int n2, .ref a3, .ref a4, .int n3]))]) [0] rfl) (hD.sub (ws' := [(h0, .inr (4, [.ref a1, .int n1, .ref a2, .int n2, .ref a3, .ref a4, .int n3]))]) [0] rfl rfl) hS (nar_i _) ⟨by rw [f_M_number, if_neg c_2, if_neg c_4, if_neg c_5, if_neg c_7, if_neg c_15, if_neg c_17, if_neg c_19, if_neg c_21, if_neg c_24, if_neg c_27, if_neg c_28, if_neg c_30], rfl⟩ (by first | exact Nat.le_of_ble_eq_true rfl | (dsimp only; omega) | omega) (by first | exact Nat.le_of_ble_eq_true rfl | (dsimp only; omega) | omega) d_M_number_239
        · skip
          refine lv_iconst (v := (-1)) hx hb d_M_number_218 (by decide) ?_
          refine lv_goto (tgt := 239) hx hb d_M_number_219 (by decide) ?_
          exact ret_i hx hb hr hlk (hP.sub (ws' := [(h0, .inr (4, [.ref a1, .int n1, .ref a2, .int n2, .ref a3, .ref a4, .int n3]))]) [0] rfl) (hD.sub (ws' := [(h0, .inr (4, [.ref a1, .int n1, .ref a2, .int n2, .ref a3, .ref a4, .int n3]))]) [0] rfl rfl) hS (nar_i _) ⟨by rw [f_M_number, if_neg c_2, if_neg c_4, if_neg c_5, if_neg c_7, if_neg c_15, if_neg c_17, if_neg c_19, if_neg c_21, if_neg c_24, if_neg c_27, if_pos c_28], rfl⟩ (by first | exact Nat.le_of_ble_eq_true rfl | (dsimp only; omega) | omega) (by first | exact Nat.le_of_ble_eq_true rfl | (dsimp only; omega) | omega) d_M_number_239
    · skip
      refine lv_iconst (v := (-1)) hx hb d_M_number_17 (by decide) ?_
      exact ret_i hx hb hr hlk (hP.sub (ws' := [(h0, .inr (4, [.ref a1, .int n1, .ref a2, .int n2, .ref a3, .ref a4, .int n3]))]) [0] rfl) (hD.sub (ws' := [(h0, .inr (4, [.ref a1, .int n1, .ref a2, .int n2, .ref a3, .ref a4, .int n3]))]) [0] rfl rfl) hS (nar_i _) ⟨by rw [f_M_number, if_neg c_2, if_pos c_4], rfl⟩ (by first | exact Nat.le_of_ble_eq_true rfl | (dsimp only; omega) | omega) (by first | exact Nat.le_of_ble_eq_true rfl | (dsimp only; omega) | omega) d_M_number_18
