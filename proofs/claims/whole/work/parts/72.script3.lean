def z_S_addModifiers (xs : List Nat) (x : Int32) : List Nat := (z_S_addWord (z_S_addWord (z_S_addWord (z_S_addWord (z_S_addWord (z_S_addWord (z_S_addWord xs (x &&& 1) 32) (x &&& 4) 33) (x &&& 2) 34) (x &&& 1024) 35) (x &&& 8) 36) (x &&& 16) 37) (x &&& 512) 38)
set_option maxRecDepth 100000 in
theorem k_S_addModifiers : ck y_S_addModifiers b_S_addModifiers 2 (none) 1 (.instanceMethod y_S_addModifiers) := ⟨tk_of (List.mem_of_getElem? (i := 413) rfl) rfl, tk_of (List.mem_of_getElem? (i := 412) (by decide +kernel)) rfl, tk_of (List.mem_of_getElem? (i := 37) (by decide +kernel)) rfl, by decide +kernel⟩
theorem lr_32 {g : gT} {A : Nat → Prop} {s : State} {H : Heap} (G : Gx g A s H) : vk_R R_S 109 "public" (gK g 32) s := G.2.2.1 32 ("ClassProbe$Script", 109, "public") (by decide +kernel)
theorem j_S_111 : Cond.methodLink R_S 111 y_S_addWord ∈ tk := tk_of (List.mem_of_getElem? (i := 415) (by decide +kernel)) rfl
theorem se_S_S_addWord : Cond.selects R_S y_S_addWord y_S_addWord ∈ tk := tk_of (List.mem_of_getElem? (i := 9) (by decide +kernel)) rfl
theorem lr_33 {g : gT} {A : Nat → Prop} {s : State} {H : Heap} (G : Gx g A s H) : vk_R R_S 115 "protected" (gK g 33) s := G.2.2.1 33 ("ClassProbe$Script", 115, "protected") (by decide +kernel)
theorem lr_34 {g : gT} {A : Nat → Prop} {s : State} {H : Heap} (G : Gx g A s H) : vk_R R_S 117 "private" (gK g 34) s := G.2.2.1 34 ("ClassProbe$Script", 117, "private") (by decide +kernel)
theorem lr_35 {g : gT} {A : Nat → Prop} {s : State} {H : Heap} (G : Gx g A s H) : vk_R R_S 119 "abstract" (gK g 35) s := G.2.2.1 35 ("ClassProbe$Script", 119, "abstract") (by decide +kernel)
theorem lr_36 {g : gT} {A : Nat → Prop} {s : State} {H : Heap} (G : Gx g A s H) : vk_R R_S 121 "static" (gK g 36) s := G.2.2.1 36 ("ClassProbe$Script", 121, "static") (by decide +kernel)
theorem lr_37 {g : gT} {A : Nat → Prop} {s : State} {H : Heap} (G : Gx g A s H) : vk_R R_S 123 "final" (gK g 37) s := G.2.2.1 37 ("ClassProbe$Script", 123, "final") (by decide +kernel)
theorem lr_38 {g : gT} {A : Nat → Prop} {s : State} {H : Heap} (G : Gx g A s H) : vk_R R_S 125 "interface" (gK g 38) s := G.2.2.1 38 ("ClassProbe$Script", 125, "interface") (by decide +kernel)
set_option maxHeartbeats 4000000 in
set_option maxRecDepth 100000 in
theorem c_S_addModifiers (g : gT) (l : Launch) (sz : Nat) (s0 b v cp : Nat) (ml : Int32) (a : Nat → Int32) (xs : List Nat) (ht : tx xs cp a) (x : Int32) (hlen : xs.length + 57 ≤ 70) : Mg g l y_S_addModifiers b_S_addModifiers 2 (none) 7 170 49 1764 [.ref s0, .int x] [(s0, .inr (1, [.ref b])), (b, .inr (3, [.ref v, .int 0, .int ml, .int (nI xs.length)])), (v, .inl (gB g, cp, .inl a))] sz (qV g (fun w1 => ∃ (v' cp' : Nat) (ml' : Int32) (f : Nat → Int32), w1 = [(s0, .inr (1, [.ref b])), (b, .inr (3, [.ref v', .int 0, .int ml', .int (nI (z_S_addModifiers xs x).length)])), (v', .inl (gB g, cp', .inl f))] ∧ tx (z_S_addModifiers xs x) cp' f ∧ (z_S_addModifiers xs x).length ≤ xs.length + 57)) := by
  refine mg_of (by decide) (Nat.le_of_ble_eq_true rfl) ?_
  intro p e s m below meth c ls A hx hb hF hr hlk hnm hA G hP hD hS hl
  have hK := G.2.1
  have hN := G.1
  have hl : lv_has ls 2 [(0, .ref s0), (1, .int x)] := hl
  have ht1 := ht.1
  have ht2 := ht.2.1
  have ht3 := ht.2.2.1
  have hw32 : (li_x 32).length = 6 := rfl
  have hw33 : (li_x 33).length = 9 := rfl
  have hw34 : (li_x 34).length = 7 := rfl
  have hw35 : (li_x 35).length = 8 := rfl
  have hw36 : (li_x 36).length = 6 := rfl
  have hw37 : (li_x 37).length = 5 := rfl
  have hw38 : (li_x 38).length = 9 := rfl
  refine lv_aload_n hx hb d_S_addModifiers_0 rfl (lv_at hl 0 rfl) ?_
  refine lv_iload_n hx hb d_S_addModifiers_1 rfl (lv_at hl 1 rfl) ?_
  refine lv_iconst (v := 1) hx hb d_S_addModifiers_2 (by decide) ?_
  refine lv_iand hx hb d_S_addModifiers_3 ?_
  refine va_ldcS hx hb hF.2.2.2.1 (lr_32 G) d_S_addModifiers_4 ?_
  refine go_v (wr := []) (run_V hF (c_S_addWord g l _ s0 b v cp ml a xs ht (x &&& 1) 32 (by omega) (by decide)) k_S_addWord j_S_111 se_S_S_addWord (va_recv hK hP (ci := 1) (q0 := 0) rfl rfl) (cw_down G hP hD hS hA [0, 1, 2] rfl rfl) ⟨Nat.le_of_ble_eq_true rfl, Nat.le_of_ble_eq_true rfl⟩ rfl hl.1 (Nat.le_of_ble_eq_true rfl) d_S_addModifiers_6 ⟨(by first | exact Nat.le_of_ble_eq_true rfl | (dsimp only; omega) | omega), (by first | exact Nat.le_of_ble_eq_true rfl | (dsimp only; omega) | omega)⟩) hP hD hS hA [0, 1, 2] [] rfl rfl rfl (by decide) (fun w1 H locs hp hP hD hS => ?_)
  obtain ⟨v_2, cp_2, ml_2, f_2, rfl, ht_2, hn_2⟩ := hp
  have hka_2 := ht_2.2.1
  have hkb_2 := ht_2.2.2.1
  have hP : va_P (gD g) classes [(s0, .inr (1, [.ref b])), (b, .inr (3, [.ref v_2, .int 0, .int ml_2, .int (nI (z_S_addWord xs (x &&& 1) 32).length)])), (v_2, .inl (gB g, cp_2, .inl f_2))] H := hP
  have hD : va_D A [(s0, .inr (1, [.ref b])), (b, .inr (3, [.ref v_2, .int 0, .int ml_2, .int (nI (z_S_addWord xs (x &&& 1) 32).length)])), (v_2, .inl (gB g, cp_2, .inl f_2))] := hD
  refine lv_aload_n hx hb d_S_addModifiers_9 rfl (lv_at hl 0 rfl) ?_
  refine lv_iload_n hx hb d_S_addModifiers_10 rfl (lv_at hl 1 rfl) ?_
  refine lv_iconst (v := 4) hx hb d_S_addModifiers_11 (by decide) ?_
  refine lv_iand hx hb d_S_addModifiers_12 ?_
  refine va_ldcS hx hb hF.2.2.2.1 (lr_33 G) d_S_addModifiers_13 ?_
  refine go_v (wr := []) (run_V hF (c_S_addWord g l _ s0 b v_2 cp_2 ml_2 f_2 (z_S_addWord xs (x &&& 1) 32) ht_2 (x &&& 4) 33 (by omega) (by decide)) k_S_addWord j_S_111 se_S_S_addWord (va_recv hK hP (ci := 1) (q0 := 0) rfl rfl) (cw_down G hP hD hS hA [0, 1, 2] rfl rfl) ⟨Nat.le_of_ble_eq_true rfl, Nat.le_of_ble_eq_true rfl⟩ rfl hl.1 (Nat.le_of_ble_eq_true rfl) d_S_addModifiers_15 ⟨(by first | exact Nat.le_of_ble_eq_true rfl | (dsimp only; omega) | omega), (by first | exact Nat.le_of_ble_eq_true rfl | (dsimp only; omega) | omega)⟩) hP hD hS hA [0, 1, 2] [] rfl rfl rfl (by decide) (fun w1 H locs hp hP hD hS => ?_)
  obtain ⟨v_4, cp_4, ml_4, f_4, rfl, ht_4, hn_4⟩ := hp
  have hka_4 := ht_4.2.1
  have hkb_4 := ht_4.2.2.1
  have hP : va_P (gD g) classes [(s0, .inr (1, [.ref b])), (b, .inr (3, [.ref v_4, .int 0, .int ml_4, .int (nI (z_S_addWord (z_S_addWord xs (x &&& 1) 32) (x &&& 4) 33).length)])), (v_4, .inl (gB g, cp_4, .inl f_4))] H := hP
  have hD : va_D A [(s0, .inr (1, [.ref b])), (b, .inr (3, [.ref v_4, .int 0, .int ml_4, .int (nI (z_S_addWord (z_S_addWord xs (x &&& 1) 32) (x &&& 4) 33).length)])), (v_4, .inl (gB g, cp_4, .inl f_4))] := hD
  refine lv_aload_n hx hb d_S_addModifiers_18 rfl (lv_at hl 0 rfl) ?_
  refine lv_iload_n hx hb d_S_addModifiers_19 rfl (lv_at hl 1 rfl) ?_
  refine lv_iconst (v := 2) hx hb d_S_addModifiers_20 (by decide) ?_
  refine lv_iand hx hb d_S_addModifiers_21 ?_
  refine va_ldcS hx hb hF.2.2.2.1 (lr_34 G) d_S_addModifiers_22 ?_
  refine go_v (wr := []) (run_V hF (c_S_addWord g l _ s0 b v_4 cp_4 ml_4 f_4 (z_S_addWord (z_S_addWord xs (x &&& 1) 32) (x &&& 4) 33) ht_4 (x &&& 2) 34 (by omega) (by decide)) k_S_addWord j_S_111 se_S_S_addWord (va_recv hK hP (ci := 1) (q0 := 0) rfl rfl) (cw_down G hP hD hS hA [0, 1, 2] rfl rfl) ⟨Nat.le_of_ble_eq_true rfl, Nat.le_of_ble_eq_true rfl⟩ rfl hl.1 (Nat.le_of_ble_eq_true rfl) d_S_addModifiers_24 ⟨(by first | exact Nat.le_of_ble_eq_true rfl | (dsimp only; omega) | omega), (by first | exact Nat.le_of_ble_eq_true rfl | (dsimp only; omega) | omega)⟩) hP hD hS hA [0, 1, 2] [] rfl rfl rfl (by decide) (fun w1 H locs hp hP hD hS => ?_)
  obtain ⟨v_6, cp_6, ml_6, f_6, rfl, ht_6, hn_6⟩ := hp
  have hka_6 := ht_6.2.1
  have hkb_6 := ht_6.2.2.1
  have hP : va_P (gD g) classes [(s0, .inr (1, [.ref b])), (b, .inr (3, [.ref v_6, .int 0, .int ml_6, .int (nI (z_S_addWord (z_S_addWord (z_S_addWord xs (x &&& 1) 32) (x &&& 4) 33) (x &&& 2) 34).length)])), (v_6, .inl (gB g, cp_6, .inl f_6))] H := hP
  have hD : va_D A [(s0, .inr (1, [.ref b])), (b, .inr (3, [.ref v_6, .int 0, .int ml_6, .int (nI (z_S_addWord (z_S_addWord (z_S_addWord xs (x &&& 1) 32) (x &&& 4) 33) (x &&& 2) 34).length)])), (v_6, .inl (gB g, cp_6, .inl f_6))] := hD
  refine lv_aload_n hx hb d_S_addModifiers_27 rfl (lv_at hl 0 rfl) ?_
  refine lv_iload_n hx hb d_S_addModifiers_28 rfl (lv_at hl 1 rfl) ?_
  refine lv_sipush (v := 1024) hx hb d_S_addModifiers_29 (by decide) ?_
  refine lv_iand hx hb d_S_addModifiers_32 ?_
  refine va_ldcS hx hb hF.2.2.2.1 (lr_35 G) d_S_addModifiers_33 ?_
  refine go_v (wr := []) (run_V hF (c_S_addWord g l _ s0 b v_6 cp_6 ml_6 f_6 (z_S_addWord (z_S_addWord (z_S_addWord xs (x &&& 1) 32) (x &&& 4) 33) (x &&& 2) 34) ht_6 (x &&& 1024) 35 (by omega) (by decide)) k_S_addWord j_S_111 se_S_S_addWord (va_recv hK hP (ci := 1) (q0 := 0) rfl rfl) (cw_down G hP hD hS hA [0, 1, 2] rfl rfl) ⟨Nat.le_of_ble_eq_true rfl, Nat.le_of_ble_eq_true rfl⟩ rfl hl.1 (Nat.le_of_ble_eq_true rfl) d_S_addModifiers_35 ⟨(by first | exact Nat.le_of_ble_eq_true rfl | (dsimp only; omega) | omega), (by first | exact Nat.le_of_ble_eq_true rfl | (dsimp only; omega) | omega)⟩) hP hD hS hA [0, 1, 2] [] rfl rfl rfl (by decide) (fun w1 H locs hp hP hD hS => ?_)
  obtain ⟨v_8, cp_8, ml_8, f_8, rfl, ht_8, hn_8⟩ := hp
  have hka_8 := ht_8.2.1
  have hkb_8 := ht_8.2.2.1
  have hP : va_P (gD g) classes [(s0, .inr (1, [.ref b])), (b, .inr (3, [.ref v_8, .int 0, .int ml_8, .int (nI (z_S_addWord (z_S_addWord (z_S_addWord (z_S_addWord xs (x &&& 1) 32) (x &&& 4) 33) (x &&& 2) 34) (x &&& 1024) 35).length)])), (v_8, .inl (gB g, cp_8, .inl f_8))] H := hP
  have hD : va_D A [(s0, .inr (1, [.ref b])), (b, .inr (3, [.ref v_8, .int 0, .int ml_8, .int (nI (z_S_addWord (z_S_addWord (z_S_addWord (z_S_addWord xs (x &&& 1) 32) (x &&& 4) 33) (x &&& 2) 34) (x &&& 1024) 35).length)])), (v_8, .inl (gB g, cp_8, .inl f_8))] := hD
  refine lv_aload_n hx hb d_S_addModifiers_38 rfl (lv_at hl 0 rfl) ?_
  refine lv_iload_n hx hb d_S_addModifiers_39 rfl (lv_at hl 1 rfl) ?_
  refine lv_bipush (v := 8) hx hb d_S_addModifiers_40 (by decide) ?_
  refine lv_iand hx hb d_S_addModifiers_42 ?_
  refine va_ldcS hx hb hF.2.2.2.1 (lr_36 G) d_S_addModifiers_43 ?_
  refine go_v (wr := []) (run_V hF (c_S_addWord g l _ s0 b v_8 cp_8 ml_8 f_8 (z_S_addWord (z_S_addWord (z_S_addWord (z_S_addWord xs (x &&& 1) 32) (x &&& 4) 33) (x &&& 2) 34) (x &&& 1024) 35) ht_8 (x &&& 8) 36 (by omega) (by decide)) k_S_addWord j_S_111 se_S_S_addWord (va_recv hK hP (ci := 1) (q0 := 0) rfl rfl) (cw_down G hP hD hS hA [0, 1, 2] rfl rfl) ⟨Nat.le_of_ble_eq_true rfl, Nat.le_of_ble_eq_true rfl⟩ rfl hl.1 (Nat.le_of_ble_eq_true rfl) d_S_addModifiers_45 ⟨(by first | exact Nat.le_of_ble_eq_true rfl | (dsimp only; omega) | omega), (by first | exact Nat.le_of_ble_eq_true rfl | (dsimp only; omega) | omega)⟩) hP hD hS hA [0, 1, 2] [] rfl rfl rfl (by decide) (fun w1 H locs hp hP hD hS => ?_)
  obtain ⟨v_10, cp_10, ml_10, f_10, rfl, ht_10, hn_10⟩ := hp
  have hka_10 := ht_10.2.1
  have hkb_10 := ht_10.2.2.1
  have hP : va_P (gD g) classes [(s0, .inr (1, [.ref b])), (b, .inr (3, [.ref v_10, .int 0, .int ml_10, .int (nI (z_S_addWord (z_S_addWord (z_S_addWord (z_S_addWord (z_S_addWord xs (x &&& 1) 32) (x &&& 4) 33) (x &&& 2) 34) (x &&& 1024) 35) (x &&& 8) 36).length)])), (v_10, .inl (gB g, cp_10, .inl f_10))] H := hP
  have hD : va_D A [(s0, .inr (1, [.ref b])), (b, .inr (3, [.ref v_10, .int 0, .int ml_10, .int (nI (z_S_addWord (z_S_addWord (z_S_addWord (z_S_addWord (z_S_addWord xs (x &&& 1) 32) (x &&& 4) 33) (x &&& 2) 34) (x &&& 1024) 35) (x &&& 8) 36).length)])), (v_10, .inl (gB g, cp_10, .inl f_10))] := hD
  refine lv_aload_n hx hb d_S_addModifiers_48 rfl (lv_at hl 0 rfl) ?_
  refine lv_iload_n hx hb d_S_addModifiers_49 rfl (lv_at hl 1 rfl) ?_
  refine lv_bipush (v := 16) hx hb d_S_addModifiers_50 (by decide) ?_
  refine lv_iand hx hb d_S_addModifiers_52 ?_
  refine va_ldcS hx hb hF.2.2.2.1 (lr_37 G) d_S_addModifiers_53 ?_
  refine go_v (wr := []) (run_V hF (c_S_addWord g l _ s0 b v_10 cp_10 ml_10 f_10 (z_S_addWord (z_S_addWord (z_S_addWord (z_S_addWord (z_S_addWord xs (x &&& 1) 32) (x &&& 4) 33) (x &&& 2) 34) (x &&& 1024) 35) (x &&& 8) 36) ht_10 (x &&& 16) 37 (by omega) (by decide)) k_S_addWord j_S_111 se_S_S_addWord (va_recv hK hP (ci := 1) (q0 := 0) rfl rfl) (cw_down G hP hD hS hA [0, 1, 2] rfl rfl) ⟨Nat.le_of_ble_eq_true rfl, Nat.le_of_ble_eq_true rfl⟩ rfl hl.1 (Nat.le_of_ble_eq_true rfl) d_S_addModifiers_55 ⟨(by first | exact Nat.le_of_ble_eq_true rfl | (dsimp only; omega) | omega), (by first | exact Nat.le_of_ble_eq_true rfl | (dsimp only; omega) | omega)⟩) hP hD hS hA [0, 1, 2] [] rfl rfl rfl (by decide) (fun w1 H locs hp hP hD hS => ?_)
  obtain ⟨v_12, cp_12, ml_12, f_12, rfl, ht_12, hn_12⟩ := hp
  have hka_12 := ht_12.2.1
  have hkb_12 := ht_12.2.2.1
  have hP : va_P (gD g) classes [(s0, .inr (1, [.ref b])), (b, .inr (3, [.ref v_12, .int 0, .int ml_12, .int (nI (z_S_addWord (z_S_addWord (z_S_addWord (z_S_addWord (z_S_addWord (z_S_addWord xs (x &&& 1) 32) (x &&& 4) 33) (x &&& 2) 34) (x &&& 1024) 35) (x &&& 8) 36) (x &&& 16) 37).length)])), (v_12, .inl (gB g, cp_12, .inl f_12))] H := hP
  have hD : va_D A [(s0, .inr (1, [.ref b])), (b, .inr (3, [.ref v_12, .int 0, .int ml_12, .int (nI (z_S_addWord (z_S_addWord (z_S_addWord (z_S_addWord (z_S_addWord (z_S_addWord xs (x &&& 1) 32) (x &&& 4) 33) (x &&& 2) 34) (x &&& 1024) 35) (x &&& 8) 36) (x &&& 16) 37).length)])), (v_12, .inl (gB g, cp_12, .inl f_12))] := hD
  refine lv_aload_n hx hb d_S_addModifiers_58 rfl (lv_at hl 0 rfl) ?_
  refine lv_iload_n hx hb d_S_addModifiers_59 rfl (lv_at hl 1 rfl) ?_
  refine lv_sipush (v := 512) hx hb d_S_addModifiers_60 (by decide) ?_
  refine lv_iand hx hb d_S_addModifiers_63 ?_
  refine va_ldcS hx hb hF.2.2.2.1 (lr_38 G) d_S_addModifiers_64 ?_
  refine go_v (wr := []) (run_V hF (c_S_addWord g l _ s0 b v_12 cp_12 ml_12 f_12 (z_S_addWord (z_S_addWord (z_S_addWord (z_S_addWord (z_S_addWord (z_S_addWord xs (x &&& 1) 32) (x &&& 4) 33) (x &&& 2) 34) (x &&& 1024) 35) (x &&& 8) 36) (x &&& 16) 37) ht_12 (x &&& 512) 38 (by omega) (by decide)) k_S_addWord j_S_111 se_S_S_addWord (va_recv hK hP (ci := 1) (q0 := 0) rfl rfl) (cw_down G hP hD hS hA [0, 1, 2] rfl rfl) ⟨Nat.le_of_ble_eq_true rfl, Nat.le_of_ble_eq_true rfl⟩ rfl hl.1 (Nat.le_of_ble_eq_true rfl) d_S_addModifiers_66 ⟨(by first | exact Nat.le_of_ble_eq_true rfl | (dsimp only; omega) | omega), (by first | exact Nat.le_of_ble_eq_true rfl | (dsimp only; omega) | omega)⟩) hP hD hS hA [0, 1, 2] [] rfl rfl rfl (by decide) (fun w1 H locs hp hP hD hS => ?_)
  obtain ⟨v_14, cp_14, ml_14, f_14, rfl, ht_14, hn_14⟩ := hp
  have hka_14 := ht_14.2.1
  have hkb_14 := ht_14.2.2.1
  have hP : va_P (gD g) classes [(s0, .inr (1, [.ref b])), (b, .inr (3, [.ref v_14, .int 0, .int ml_14, .int (nI (z_S_addWord (z_S_addWord (z_S_addWord (z_S_addWord (z_S_addWord (z_S_addWord (z_S_addWord xs (x &&& 1) 32) (x &&& 4) 33) (x &&& 2) 34) (x &&& 1024) 35) (x &&& 8) 36) (x &&& 16) 37) (x &&& 512) 38).length)])), (v_14, .inl (gB g, cp_14, .inl f_14))] H := hP
  have hD : va_D A [(s0, .inr (1, [.ref b])), (b, .inr (3, [.ref v_14, .int 0, .int ml_14, .int (nI (z_S_addWord (z_S_addWord (z_S_addWord (z_S_addWord (z_S_addWord (z_S_addWord (z_S_addWord xs (x &&& 1) 32) (x &&& 4) 33) (x &&& 2) 34) (x &&& 1024) 35) (x &&& 8) 36) (x &&& 16) 37) (x &&& 512) 38).length)])), (v_14, .inl (gB g, cp_14, .inl f_14))] := hD
  have e : z_S_addModifiers xs x = (z_S_addWord (z_S_addWord (z_S_addWord (z_S_addWord (z_S_addWord (z_S_addWord (z_S_addWord xs (x &&& 1) 32) (x &&& 4) 33) (x &&& 2) 34) (x &&& 1024) 35) (x &&& 8) 36) (x &&& 16) 37) (x &&& 512) 38) := by rw [z_S_addModifiers]
  exact ret_v hx hb hr hlk (hP.sub (ws' := [(s0, .inr (1, [.ref b])), (b, .inr (3, [.ref v_14, .int 0, .int ml_14, .int (nI (z_S_addWord (z_S_addWord (z_S_addWord (z_S_addWord (z_S_addWord (z_S_addWord (z_S_addWord xs (x &&& 1) 32) (x &&& 4) 33) (x &&& 2) 34) (x &&& 1024) 35) (x &&& 8) 36) (x &&& 16) 37) (x &&& 512) 38).length)])), (v_14, .inl (gB g, cp_14, .inl f_14))]) [0, 1, 2] rfl) (hD.sub (ws' := [(s0, .inr (1, [.ref b])), (b, .inr (3, [.ref v_14, .int 0, .int ml_14, .int (nI (z_S_addWord (z_S_addWord (z_S_addWord (z_S_addWord (z_S_addWord (z_S_addWord (z_S_addWord xs (x &&& 1) 32) (x &&& 4) 33) (x &&& 2) 34) (x &&& 1024) 35) (x &&& 8) 36) (x &&& 16) 37) (x &&& 512) 38).length)])), (v_14, .inl (gB g, cp_14, .inl f_14))]) [0, 1, 2] rfl rfl) hS ⟨_, _, _, _, by rw [e], by rw [e]; exact ht_14, by rw [e]; omega⟩ (by first | exact Nat.le_of_ble_eq_true rfl | (dsimp only; omega) | omega) (by first | exact Nat.le_of_ble_eq_true rfl | (dsimp only; omega) | omega) d_S_addModifiers_69
def zf_S_write (t : Int32) (pj : Nat) (wh : Int32) : List Nat × Int32 := (if wh = 0 then ((z_S_addName ([] : List Nat) t pj), (1 : Int32)) else (if wh = 1 then ((z_S_addBrackets (z_S_addOwnName ([] : List Nat) (f_B_name (nI pj))) t), (1 : Int32)) else (if wh = 2 then (if (f_B_isNameless (nI pj)) = 0 then (if (f_B_isInMethod (nI pj)) = 0 then ((z_S_addBrackets (z_S_addWithChange ([] : List Nat) (f_B_name (nI pj)) 36 46) t), (1 : Int32)) else ((z_S_addBrackets (z_S_addWithChange ([] : List Nat) (f_B_name (nI pj)) 36 46) t), (0 : Int32))) else ((z_S_addBrackets (z_S_addWithChange ([] : List Nat) (f_B_name (nI pj)) 36 46) t), (0 : Int32))) else (if wh = 3 then ((z_S_addBrackets (([] : List Nat) ++ li_x (f_B_name (nI pj))) t), (1 : Int32)) else (if wh = 4 then (if 10 < (nI pj) then ((([] : List Nat) ++ li_x 29), (1 : Int32)) else ((([] : List Nat) ++ li_x 28), (1 : Int32))) else (if wh = 5 then ((z_S_addName (z_S_addKind ([] : List Nat) t) t pj), (1 : Int32)) else (if wh = 6 then ((z_S_addCode ([] : List Nat) t pj 47), (1 : Int32)) else ((z_S_addModifiers ([] : List Nat) (f_B_modifiers t)), (1 : Int32)))))))))
set_option maxRecDepth 100000 in
theorem k_S_write : ck y_S_write b_S_write 4 (some .boolean) 2 (.instanceMethod y_S_write) := ⟨tk_of (List.mem_of_getElem? (i := 145) rfl) rfl, tk_of (List.mem_of_getElem? (i := 144) (by decide +kernel)) rfl, tk_of (List.mem_of_getElem? (i := 37) (by decide +kernel)) rfl, by decide +kernel⟩
theorem j_S_36 : Cond.methodLink R_S 36 y_S_addName ∈ tk := tk_of (List.mem_of_getElem? (i := 207) (by decide +kernel)) rfl
theorem se_S_S_addName : Cond.selects R_S y_S_addName y_S_addName ∈ tk := tk_of (List.mem_of_getElem? (i := 2) (by decide +kernel)) rfl
theorem j_S_43 : Cond.methodLink R_S 43 y_S_addOwnName ∈ tk := tk_of (List.mem_of_getElem? (i := 377) (by decide +kernel)) rfl
theorem se_S_S_addOwnName : Cond.selects R_S y_S_addOwnName y_S_addOwnName ∈ tk := tk_of (List.mem_of_getElem? (i := 5) (by decide +kernel)) rfl
theorem j_S_47 : Cond.methodLink R_S 47 y_S_addBrackets ∈ tk := tk_of (List.mem_of_getElem? (i := 381) (by decide +kernel)) rfl
theorem se_S_S_addBrackets : Cond.selects R_S y_S_addBrackets y_S_addBrackets ∈ tk := tk_of (List.mem_of_getElem? (i := 6) (by decide +kernel)) rfl
theorem j_S_54 : Cond.methodLinkNest R_S 54 y_B_isNameless R_P ∈ nw_l := nw_of (List.mem_of_getElem? (i := 386) (by decide +kernel)) rfl
theorem j_S_58 : Cond.methodLinkNest R_S 58 y_B_isInMethod R_P ∈ nw_l := nw_of (List.mem_of_getElem? (i := 389) (by decide +kernel)) rfl
theorem lr_29 {g : gT} {A : Nat → Prop} {s : State} {H : Heap} (G : Gx g A s H) : vk_R R_S 67 "" (gK g 29) s := G.2.2.1 29 ("ClassProbe$Script", 67, "") (by decide +kernel)
theorem lr_28 {g : gT} {A : Nat → Prop} {s : State} {H : Heap} (G : Gx g A s H) : vk_R R_S 65 "java.lang" (gK g 28) s := G.2.2.1 28 ("ClassProbe$Script", 65, "java.lang") (by decide +kernel)
theorem j_S_69 : Cond.methodLink R_S 69 y_S_addKind ∈ tk := tk_of (List.mem_of_getElem? (i := 394) (by decide +kernel)) rfl
theorem se_S_S_addKind : Cond.selects R_S y_S_addKind y_S_addKind ∈ tk := tk_of (List.mem_of_getElem? (i := 7) (by decide +kernel)) rfl
theorem j_S_76 : Cond.methodLinkNest R_S 76 y_B_modifiers R_P ∈ nw_l := nw_of (List.mem_of_getElem? (i := 403) (by decide +kernel)) rfl
theorem j_S_79 : Cond.methodLink R_S 79 y_S_addModifiers ∈ tk := tk_of (List.mem_of_getElem? (i := 410) (by decide +kernel)) rfl
theorem se_S_S_addModifiers : Cond.selects R_S y_S_addModifiers y_S_addModifiers ∈ tk := tk_of (List.mem_of_getElem? (i := 8) (by decide +kernel)) rfl
set_option maxHeartbeats 4000000 in
set_option maxRecDepth 100000 in
theorem c_S_write (g : gT) (l : Launch) (sz : Nat) (s0 b v cp : Nat) (ml : Int32) (a : Nat → Int32) (xs : List Nat) (ht : tx xs cp a) (t wh : Int32) (pj : Nat) (hL : f_B_levels t ≤ 2) (hpj : f_B_plain t = nI pj) (hp25 : pj < 25) : Mg g l y_S_write b_S_write 4 (some .boolean) 9 215 60 2200 [.ref s0, .int t, .int wh] [(s0, .inr (1, [.ref b])), (b, .inr (3, [.ref v, .int 0, .int ml, .int (nI xs.length)])), (v, .inl (gB g, cp, .inl a))] sz (qI g (fun r w1 => ∃ (v' cp' : Nat) (ml' : Int32) (f : Nat → Int32), w1 = [(s0, .inr (1, [.ref b])), (b, .inr (3, [.ref v', .int 0, .int ml', .int (nI (zf_S_write t pj wh).1.length)])), (v', .inl (gB g, cp', .inl f))] ∧ tx (zf_S_write t pj wh).1 cp' f ∧ r = (zf_S_write t pj wh).2)) := by
  refine mg_of (by decide) (Nat.le_of_ble_eq_true rfl) ?_
  intro p e s m below meth c ls A hx hb hF hr hlk hnm hA G hP hD hS hl
  have hK := G.2.1
  have hN := G.1
  have hl : lv_has ls 4 [(0, .ref s0), (1, .int t), (2, .int wh)] := hl
  have ht1 := ht.1
  have ht2 := ht.2.1
  have ht3 := ht.2.2.1
  have hnil : ([] : List Nat).length = 0 := rfl
  have hl28 : (li_x 28).length = 9 := rfl
  have hl29 : (li_x 29).length = 0 := rfl
  refine lv_aload_n hx hb d_S_write_0 rfl (lv_at hl 0 rfl) ?_
  refine va_get (D := gD g) (ci := 1) (v := .ref b) (C := R_S) (T := F_S) (N := 1) hx hb hF.2.2.2.2 in_S hF.2.2.2.1 hK hP 0 rfl rfl 0 (by decide) (hF.2.2.2.2 _ fl_S_12) (fun _ h9 => h9) rfl d_S_write_1 ?_
  refine lv_iconst (v := 0) hx hb d_S_write_4 (by decide) ?_
  refine go_v (wr := [(s0, .inr (1, [.ref b]))]) (run_V hF (c_SB_setLength g l _ b v cp ml a xs ht) k_SB_setLength j_S_26 se_SB_SB_setLength (va_recv hK hP (ci := 3) (q0 := 1) rfl rfl) (cw_down G hP hD hS hA [1, 2] rfl rfl) ⟨Nat.le_of_ble_eq_true rfl, Nat.le_of_ble_eq_true rfl⟩ rfl hl.1 (Nat.le_of_ble_eq_true rfl) d_S_write_5 ⟨(by first | exact Nat.le_of_ble_eq_true rfl | (dsimp only; omega) | omega), (by first | exact Nat.le_of_ble_eq_true rfl | (dsimp only; omega) | omega)⟩) hP hD hS hA [1, 2] [0] rfl rfl rfl (by decide) (fun w1 H locs hp hP hD hS => ?_)
  obtain ⟨v_2, ml_2, f_2, rfl, ht_2⟩ := hp
  have hP : va_P (gD g) classes [(s0, .inr (1, [.ref b])), (b, .inr (3, [.ref v_2, .int 0, .int ml_2, .int (nI ([] : List Nat).length)])), (v_2, .inl (gB g, cp, .inl f_2))] H := hP
  have hD : va_D A [(s0, .inr (1, [.ref b])), (b, .inr (3, [.ref v_2, .int 0, .int ml_2, .int (nI ([] : List Nat).length)])), (v_2, .inl (gB g, cp, .inl f_2))] := hD
  refine lv_iload_n hx hb d_S_write_8 rfl (lv_at hl 1 rfl) ?_
  refine pm_callNE hF hN (c_B_plain l t) k_B_plain j_S_30 ⟨Nat.le_of_ble_eq_true rfl, Nat.le_of_ble_eq_true rfl⟩ rfl hl.1 (Nat.le_of_ble_eq_true rfl) d_S_write_9 ⟨by first | exact Nat.le_of_ble_eq_true rfl | (dsimp only; omega) | omega | exact Nat.zero_le _, by first | exact Nat.le_of_ble_eq_true rfl | (dsimp only; omega) | omega | exact Nat.zero_le _⟩ ?_
  refine tp_i (show (f_B_plain t) = (nI pj) from hpj) ?_
  refine lv_istore_n (lv' := [(3, .int (nI pj)), (0, .ref s0), (1, .int t), (2, .int wh)]) hx hb d_S_write_12 rfl hl (by decide) rfl (fun ls hl => ?_)
  refine lv_iload_n hx hb d_S_write_13 rfl (lv_at hl 3 rfl) ?_
  by_cases c_4 : wh = 0
  · refine lv_tableIn (tgt := 56) (off := 42) hx hb d_S_write_14 (by rw [c_4]; decide) (by rw [c_4]; decide) (by rw [c_4]; decide) (by decide) ?_
    refine lv_aload_n hx hb d_S_write_56 rfl (lv_at hl 1 rfl) ?_
    refine lv_iload_n hx hb d_S_write_57 rfl (lv_at hl 2 rfl) ?_
    refine go_v (wr := []) (run_V hF (c_S_addName g l _ s0 b v_2 cp ml_2 f_2 ([] : List Nat) ht_2 t pj (by omega) hL hpj hp25) k_S_addName j_S_36 se_S_S_addName (va_recv hK hP (ci := 1) (q0 := 0) rfl rfl) (cw_down G hP hD hS hA [0, 1, 2] rfl rfl) ⟨Nat.le_of_ble_eq_true rfl, Nat.le_of_ble_eq_true rfl⟩ rfl hl.1 (Nat.le_of_ble_eq_true rfl) d_S_write_58 ⟨(by first | exact Nat.le_of_ble_eq_true rfl | (dsimp only; omega) | omega), (by first | exact Nat.le_of_ble_eq_true rfl | (dsimp only; omega) | omega)⟩) hP hD hS hA [0, 1, 2] [] rfl rfl rfl (by decide) (fun w1 H locs hp hP hD hS => ?_)
    obtain ⟨v_6, cp_6, ml_6, f_6, rfl, ht_6, hn_6⟩ := hp
    have hka_6 := ht_6.2.1
    have hkb_6 := ht_6.2.2.1
    have hP : va_P (gD g) classes [(s0, .inr (1, [.ref b])), (b, .inr (3, [.ref v_6, .int 0, .int ml_6, .int (nI (z_S_addName ([] : List Nat) t pj).length)])), (v_6, .inl (gB g, cp_6, .inl f_6))] H := hP
    have hD : va_D A [(s0, .inr (1, [.ref b])), (b, .inr (3, [.ref v_6, .int 0, .int ml_6, .int (nI (z_S_addName ([] : List Nat) t pj).length)])), (v_6, .inl (gB g, cp_6, .inl f_6))] := hD
    refine lv_iconst (v := 1) hx hb d_S_write_61 (by decide) ?_
    have e : zf_S_write t pj wh = ((z_S_addName ([] : List Nat) t pj), (1 : Int32)) := by rw [zf_S_write, if_pos c_4]
    exact ret_i hx hb hr hlk (hP.sub (ws' := [(s0, .inr (1, [.ref b])), (b, .inr (3, [.ref v_6, .int 0, .int ml_6, .int (nI (z_S_addName ([] : List Nat) t pj).length)])), (v_6, .inl (gB g, cp_6, .inl f_6))]) [0, 1, 2] rfl) (hD.sub (ws' := [(s0, .inr (1, [.ref b])), (b, .inr (3, [.ref v_6, .int 0, .int ml_6, .int (nI (z_S_addName ([] : List Nat) t pj).length)])), (v_6, .inl (gB g, cp_6, .inl f_6))]) [0, 1, 2] rfl rfl) hS (by decide) ⟨_, _, _, _, by rw [e], by rw [e]; exact ht_6, by rw [e]⟩ (by first | exact Nat.le_of_ble_eq_true rfl | (dsimp only; omega) | omega) (by first | exact Nat.le_of_ble_eq_true rfl | (dsimp only; omega) | omega) d_S_write_62
  by_cases c_7 : wh = 1
  · refine lv_tableIn (tgt := 63) (off := 49) hx hb d_S_write_14 (by rw [c_7]; decide) (by rw [c_7]; decide) (by rw [c_7]; decide) (by decide) ?_
    refine lv_aload_n hx hb d_S_write_63 rfl (lv_at hl 1 rfl) ?_
    refine lv_iload_n hx hb d_S_write_64 rfl (lv_at hl 0 rfl) ?_
    refine go_r (wr := [(s0, .inr (1, [.ref b])), (b, .inr (3, [.ref v_2, .int 0, .int ml_2, .int (nI ([] : List Nat).length)])), (v_2, .inl (gB g, cp, .inl f_2))]) (run_SN hF G.1 (c_B_name g l _ (nI pj)) k_B_name j_S_39 (cw_down G hP hD hS hA [] rfl rfl) ⟨Nat.le_of_ble_eq_true rfl, Nat.le_of_ble_eq_true rfl⟩ rfl hl.1 (Nat.le_of_ble_eq_true rfl) d_S_write_65 ⟨(by first | exact Nat.le_of_ble_eq_true rfl | (dsimp only; omega) | omega), (by first | exact Nat.le_of_ble_eq_true rfl | (dsimp only; omega) | omega)⟩) hP hD hS hA [] [0, 1, 2] rfl rfl rfl (by decide) (fun r_8 w1 H locs hp hP hD hS => ?_)
    obtain ⟨er, rfl⟩ := hp
    rw [er]
    have hP : va_P (gD g) classes [(s0, .inr (1, [.ref b])), (b, .inr (3, [.ref v_2, .int 0, .int ml_2, .int (nI ([] : List Nat).length)])), (v_2, .inl (gB g, cp, .inl f_2))] H := hP
    have hD : va_D A [(s0, .inr (1, [.ref b])), (b, .inr (3, [.ref v_2, .int 0, .int ml_2, .int (nI ([] : List Nat).length)])), (v_2, .inl (gB g, cp, .inl f_2))] := hD
    refine go_v (wr := []) (run_V hF (c_S_addOwnName g l _ s0 b v_2 cp ml_2 f_2 ([] : List Nat) ht_2 (f_B_name (nI pj)) (by omega) (nm_lt (nI pj))) k_S_addOwnName j_S_43 se_S_S_addOwnName (va_recv hK hP (ci := 1) (q0 := 0) rfl rfl) (cw_down G hP hD hS hA [0, 1, 2] rfl rfl) ⟨Nat.le_of_ble_eq_true rfl, Nat.le_of_ble_eq_true rfl⟩ rfl hl.1 (Nat.le_of_ble_eq_true rfl) d_S_write_68 ⟨(by first | exact Nat.le_of_ble_eq_true rfl | (dsimp only; omega) | omega), (by first | exact Nat.le_of_ble_eq_true rfl | (dsimp only; omega) | omega)⟩) hP hD hS hA [0, 1, 2] [] rfl rfl rfl (by decide) (fun w1 H locs hp hP hD hS => ?_)
    obtain ⟨v_10, cp_10, ml_10, f_10, rfl, ht_10, hn_10⟩ := hp
    have hka_10 := ht_10.2.1
    have hkb_10 := ht_10.2.2.1
    have hP : va_P (gD g) classes [(s0, .inr (1, [.ref b])), (b, .inr (3, [.ref v_10, .int 0, .int ml_10, .int (nI (z_S_addOwnName ([] : List Nat) (f_B_name (nI pj))).length)])), (v_10, .inl (gB g, cp_10, .inl f_10))] H := hP
    have hD : va_D A [(s0, .inr (1, [.ref b])), (b, .inr (3, [.ref v_10, .int 0, .int ml_10, .int (nI (z_S_addOwnName ([] : List Nat) (f_B_name (nI pj))).length)])), (v_10, .inl (gB g, cp_10, .inl f_10))] := hD
    refine lv_aload_n hx hb d_S_write_71 rfl (lv_at hl 1 rfl) ?_
    refine lv_iload_n hx hb d_S_write_72 rfl (lv_at hl 2 rfl) ?_
    refine go_v (wr := []) (run_V hF (c_S_addBrackets g l _ s0 b v_10 cp_10 ml_10 f_10 (z_S_addOwnName ([] : List Nat) (f_B_name (nI pj))) ht_10 t (by omega) hL) k_S_addBrackets j_S_47 se_S_S_addBrackets (va_recv hK hP (ci := 1) (q0 := 0) rfl rfl) (cw_down G hP hD hS hA [0, 1, 2] rfl rfl) ⟨Nat.le_of_ble_eq_true rfl, Nat.le_of_ble_eq_true rfl⟩ rfl hl.1 (Nat.le_of_ble_eq_true rfl) d_S_write_73 ⟨(by first | exact Nat.le_of_ble_eq_true rfl | (dsimp only; omega) | omega), (by first | exact Nat.le_of_ble_eq_true rfl | (dsimp only; omega) | omega)⟩) hP hD hS hA [0, 1, 2] [] rfl rfl rfl (by decide) (fun w1 H locs hp hP hD hS => ?_)
    obtain ⟨v_12, cp_12, ml_12, f_12, rfl, ht_12, hn_12⟩ := hp
    have hka_12 := ht_12.2.1
    have hkb_12 := ht_12.2.2.1
    have hP : va_P (gD g) classes [(s0, .inr (1, [.ref b])), (b, .inr (3, [.ref v_12, .int 0, .int ml_12, .int (nI (z_S_addBrackets (z_S_addOwnName ([] : List Nat) (f_B_name (nI pj))) t).length)])), (v_12, .inl (gB g, cp_12, .inl f_12))] H := hP
    have hD : va_D A [(s0, .inr (1, [.ref b])), (b, .inr (3, [.ref v_12, .int 0, .int ml_12, .int (nI (z_S_addBrackets (z_S_addOwnName ([] : List Nat) (f_B_name (nI pj))) t).length)])), (v_12, .inl (gB g, cp_12, .inl f_12))] := hD
    refine lv_iconst (v := 1) hx hb d_S_write_76 (by decide) ?_
    have e : zf_S_write t pj wh = ((z_S_addBrackets (z_S_addOwnName ([] : List Nat) (f_B_name (nI pj))) t), (1 : Int32)) := by rw [zf_S_write, if_neg c_4, if_pos c_7]
    exact ret_i hx hb hr hlk (hP.sub (ws' := [(s0, .inr (1, [.ref b])), (b, .inr (3, [.ref v_12, .int 0, .int ml_12, .int (nI (z_S_addBrackets (z_S_addOwnName ([] : List Nat) (f_B_name (nI pj))) t).length)])), (v_12, .inl (gB g, cp_12, .inl f_12))]) [0, 1, 2] rfl) (hD.sub (ws' := [(s0, .inr (1, [.ref b])), (b, .inr (3, [.ref v_12, .int 0, .int ml_12, .int (nI (z_S_addBrackets (z_S_addOwnName ([] : List Nat) (f_B_name (nI pj))) t).length)])), (v_12, .inl (gB g, cp_12, .inl f_12))]) [0, 1, 2] rfl rfl) hS (by decide) ⟨_, _, _, _, by rw [e], by rw [e]; exact ht_12, by rw [e]⟩ (by first | exact Nat.le_of_ble_eq_true rfl | (dsimp only; omega) | omega) (by first | exact Nat.le_of_ble_eq_true rfl | (dsimp only; omega) | omega) d_S_write_77
  by_cases c_13 : wh = 2
  · refine lv_tableIn (tgt := 78) (off := 64) hx hb d_S_write_14 (by rw [c_13]; decide) (by rw [c_13]; decide) (by rw [c_13]; decide) (by decide) ?_
    refine lv_aload_n hx hb d_S_write_78 rfl (lv_at hl 1 rfl) ?_
    refine lv_iload_n hx hb d_S_write_79 rfl (lv_at hl 0 rfl) ?_
    refine go_r (wr := [(s0, .inr (1, [.ref b])), (b, .inr (3, [.ref v_2, .int 0, .int ml_2, .int (nI ([] : List Nat).length)])), (v_2, .inl (gB g, cp, .inl f_2))]) (run_SN hF G.1 (c_B_name g l _ (nI pj)) k_B_name j_S_39 (cw_down G hP hD hS hA [] rfl rfl) ⟨Nat.le_of_ble_eq_true rfl, Nat.le_of_ble_eq_true rfl⟩ rfl hl.1 (Nat.le_of_ble_eq_true rfl) d_S_write_80 ⟨(by first | exact Nat.le_of_ble_eq_true rfl | (dsimp only; omega) | omega), (by first | exact Nat.le_of_ble_eq_true rfl | (dsimp only; omega) | omega)⟩) hP hD hS hA [] [0, 1, 2] rfl rfl rfl (by decide) (fun r_14 w1 H locs hp hP hD hS => ?_)
    obtain ⟨er, rfl⟩ := hp
    rw [er]
    have hP : va_P (gD g) classes [(s0, .inr (1, [.ref b])), (b, .inr (3, [.ref v_2, .int 0, .int ml_2, .int (nI ([] : List Nat).length)])), (v_2, .inl (gB g, cp, .inl f_2))] H := hP
    have hD : va_D A [(s0, .inr (1, [.ref b])), (b, .inr (3, [.ref v_2, .int 0, .int ml_2, .int (nI ([] : List Nat).length)])), (v_2, .inl (gB g, cp, .inl f_2))] := hD
    refine lv_bipush (v := 36) hx hb d_S_write_83 (by decide) ?_
    refine lv_bipush (v := 46) hx hb d_S_write_85 (by decide) ?_
    refine go_v (wr := []) (run_V hF (c_S_addWithChange g l _ s0 b v_2 cp ml_2 f_2 ([] : List Nat) ht_2 (f_B_name (nI pj)) 36 46 (by omega) (nm_lt (nI pj)) (by decide)) k_S_addWithChange j_S_50 se_S_S_addWithChange (va_recv hK hP (ci := 1) (q0 := 0) rfl rfl) (cw_down G hP hD hS hA [0, 1, 2] rfl rfl) ⟨Nat.le_of_ble_eq_true rfl, Nat.le_of_ble_eq_true rfl⟩ rfl hl.1 (Nat.le_of_ble_eq_true rfl) d_S_write_87 ⟨(by first | exact Nat.le_of_ble_eq_true rfl | (dsimp only; omega) | omega), (by first | exact Nat.le_of_ble_eq_true rfl | (dsimp only; omega) | omega)⟩) hP hD hS hA [0, 1, 2] [] rfl rfl rfl (by decide) (fun w1 H locs hp hP hD hS => ?_)
    obtain ⟨v_16, cp_16, ml_16, f_16, rfl, ht_16, hn_16⟩ := hp
    have hka_16 := ht_16.2.1
    have hkb_16 := ht_16.2.2.1
    have hP : va_P (gD g) classes [(s0, .inr (1, [.ref b])), (b, .inr (3, [.ref v_16, .int 0, .int ml_16, .int (nI (z_S_addWithChange ([] : List Nat) (f_B_name (nI pj)) 36 46).length)])), (v_16, .inl (gB g, cp_16, .inl f_16))] H := hP
    have hD : va_D A [(s0, .inr (1, [.ref b])), (b, .inr (3, [.ref v_16, .int 0, .int ml_16, .int (nI (z_S_addWithChange ([] : List Nat) (f_B_name (nI pj)) 36 46).length)])), (v_16, .inl (gB g, cp_16, .inl f_16))] := hD
    refine lv_aload_n hx hb d_S_write_90 rfl (lv_at hl 1 rfl) ?_
    refine lv_iload_n hx hb d_S_write_91 rfl (lv_at hl 2 rfl) ?_
    refine go_v (wr := []) (run_V hF (c_S_addBrackets g l _ s0 b v_16 cp_16 ml_16 f_16 (z_S_addWithChange ([] : List Nat) (f_B_name (nI pj)) 36 46) ht_16 t (by omega) hL) k_S_addBrackets j_S_47 se_S_S_addBrackets (va_recv hK hP (ci := 1) (q0 := 0) rfl rfl) (cw_down G hP hD hS hA [0, 1, 2] rfl rfl) ⟨Nat.le_of_ble_eq_true rfl, Nat.le_of_ble_eq_true rfl⟩ rfl hl.1 (Nat.le_of_ble_eq_true rfl) d_S_write_92 ⟨(by first | exact Nat.le_of_ble_eq_true rfl | (dsimp only; omega) | omega), (by first | exact Nat.le_of_ble_eq_true rfl | (dsimp only; omega) | omega)⟩) hP hD hS hA [0, 1, 2] [] rfl rfl rfl (by decide) (fun w1 H locs hp hP hD hS => ?_)
    obtain ⟨v_18, cp_18, ml_18, f_18, rfl, ht_18, hn_18⟩ := hp
    have hka_18 := ht_18.2.1
    have hkb_18 := ht_18.2.2.1
    have hP : va_P (gD g) classes [(s0, .inr (1, [.ref b])), (b, .inr (3, [.ref v_18, .int 0, .int ml_18, .int (nI (z_S_addBrackets (z_S_addWithChange ([] : List Nat) (f_B_name (nI pj)) 36 46) t).length)])), (v_18, .inl (gB g, cp_18, .inl f_18))] H := hP
    have hD : va_D A [(s0, .inr (1, [.ref b])), (b, .inr (3, [.ref v_18, .int 0, .int ml_18, .int (nI (z_S_addBrackets (z_S_addWithChange ([] : List Nat) (f_B_name (nI pj)) 36 46) t).length)])), (v_18, .inl (gB g, cp_18, .inl f_18))] := hD
    refine lv_iload_n hx hb d_S_write_95 rfl (lv_at hl 0 rfl) ?_
    refine pm_callNE hF hN (c_B_isNameless l (nI pj)) k_B_isNameless j_S_54 ⟨Nat.le_of_ble_eq_true rfl, Nat.le_of_ble_eq_true rfl⟩ rfl hl.1 (Nat.le_of_ble_eq_true rfl) d_S_write_96 ⟨by first | exact Nat.le_of_ble_eq_true rfl | (dsimp only; omega) | omega | exact Nat.zero_le _, by first | exact Nat.le_of_ble_eq_true rfl | (dsimp only; omega) | omega | exact Nat.zero_le _⟩ ?_
    refine lv_if_ne (tgt := 113) hx hb d_S_write_99 (by decide) (fun c_20 => ?_) (fun c_20 => ?_)
    · skip
      refine lv_iconst (v := 0) hx hb d_S_write_113 (by decide) ?_
      have e : zf_S_write t pj wh = ((z_S_addBrackets (z_S_addWithChange ([] : List Nat) (f_B_name (nI pj)) 36 46) t), (0 : Int32)) := by rw [zf_S_write, if_neg c_4, if_neg c_7, if_pos c_13, if_neg c_20]
      exact ret_i hx hb hr hlk (hP.sub (ws' := [(s0, .inr (1, [.ref b])), (b, .inr (3, [.ref v_18, .int 0, .int ml_18, .int (nI (z_S_addBrackets (z_S_addWithChange ([] : List Nat) (f_B_name (nI pj)) 36 46) t).length)])), (v_18, .inl (gB g, cp_18, .inl f_18))]) [0, 1, 2] rfl) (hD.sub (ws' := [(s0, .inr (1, [.ref b])), (b, .inr (3, [.ref v_18, .int 0, .int ml_18, .int (nI (z_S_addBrackets (z_S_addWithChange ([] : List Nat) (f_B_name (nI pj)) 36 46) t).length)])), (v_18, .inl (gB g, cp_18, .inl f_18))]) [0, 1, 2] rfl rfl) hS (by decide) ⟨_, _, _, _, by rw [e], by rw [e]; exact ht_18, by rw [e]⟩ (by first | exact Nat.le_of_ble_eq_true rfl | (dsimp only; omega) | omega) (by first | exact Nat.le_of_ble_eq_true rfl | (dsimp only; omega) | omega) d_S_write_114
    · skip
      refine lv_iload_n hx hb d_S_write_102 rfl (lv_at hl 0 rfl) ?_
      refine pm_callNE hF hN (c_B_isInMethod l (nI pj)) k_B_isInMethod j_S_58 ⟨Nat.le_of_ble_eq_true rfl, Nat.le_of_ble_eq_true rfl⟩ rfl hl.1 (Nat.le_of_ble_eq_true rfl) d_S_write_103 ⟨by first | exact Nat.le_of_ble_eq_true rfl | (dsimp only; omega) | omega | exact Nat.zero_le _, by first | exact Nat.le_of_ble_eq_true rfl | (dsimp only; omega) | omega | exact Nat.zero_le _⟩ ?_
      refine lv_if_ne (tgt := 113) hx hb d_S_write_106 (by decide) (fun c_22 => ?_) (fun c_22 => ?_)
      · skip
        refine lv_iconst (v := 0) hx hb d_S_write_113 (by decide) ?_
        have e : zf_S_write t pj wh = ((z_S_addBrackets (z_S_addWithChange ([] : List Nat) (f_B_name (nI pj)) 36 46) t), (0 : Int32)) := by rw [zf_S_write, if_neg c_4, if_neg c_7, if_pos c_13, if_pos c_20, if_neg c_22]
        exact ret_i hx hb hr hlk (hP.sub (ws' := [(s0, .inr (1, [.ref b])), (b, .inr (3, [.ref v_18, .int 0, .int ml_18, .int (nI (z_S_addBrackets (z_S_addWithChange ([] : List Nat) (f_B_name (nI pj)) 36 46) t).length)])), (v_18, .inl (gB g, cp_18, .inl f_18))]) [0, 1, 2] rfl) (hD.sub (ws' := [(s0, .inr (1, [.ref b])), (b, .inr (3, [.ref v_18, .int 0, .int ml_18, .int (nI (z_S_addBrackets (z_S_addWithChange ([] : List Nat) (f_B_name (nI pj)) 36 46) t).length)])), (v_18, .inl (gB g, cp_18, .inl f_18))]) [0, 1, 2] rfl rfl) hS (by decide) ⟨_, _, _, _, by rw [e], by rw [e]; exact ht_18, by rw [e]⟩ (by first | exact Nat.le_of_ble_eq_true rfl | (dsimp only; omega) | omega) (by first | exact Nat.le_of_ble_eq_true rfl | (dsimp only; omega) | omega) d_S_write_114
      · skip
        refine lv_iconst (v := 1) hx hb d_S_write_109 (by decide) ?_
        refine lv_goto (tgt := 114) hx hb d_S_write_110 (by decide) ?_
        have e : zf_S_write t pj wh = ((z_S_addBrackets (z_S_addWithChange ([] : List Nat) (f_B_name (nI pj)) 36 46) t), (1 : Int32)) := by rw [zf_S_write, if_neg c_4, if_neg c_7, if_pos c_13, if_pos c_20, if_pos c_22]
        exact ret_i hx hb hr hlk (hP.sub (ws' := [(s0, .inr (1, [.ref b])), (b, .inr (3, [.ref v_18, .int 0, .int ml_18, .int (nI (z_S_addBrackets (z_S_addWithChange ([] : List Nat) (f_B_name (nI pj)) 36 46) t).length)])), (v_18, .inl (gB g, cp_18, .inl f_18))]) [0, 1, 2] rfl) (hD.sub (ws' := [(s0, .inr (1, [.ref b])), (b, .inr (3, [.ref v_18, .int 0, .int ml_18, .int (nI (z_S_addBrackets (z_S_addWithChange ([] : List Nat) (f_B_name (nI pj)) 36 46) t).length)])), (v_18, .inl (gB g, cp_18, .inl f_18))]) [0, 1, 2] rfl rfl) hS (by decide) ⟨_, _, _, _, by rw [e], by rw [e]; exact ht_18, by rw [e]⟩ (by first | exact Nat.le_of_ble_eq_true rfl | (dsimp only; omega) | omega) (by first | exact Nat.le_of_ble_eq_true rfl | (dsimp only; omega) | omega) d_S_write_114
  by_cases c_23 : wh = 3
  · refine lv_tableIn (tgt := 115) (off := 101) hx hb d_S_write_14 (by rw [c_23]; decide) (by rw [c_23]; decide) (by rw [c_23]; decide) (by decide) ?_
    refine lv_aload_n hx hb d_S_write_115 rfl (lv_at hl 1 rfl) ?_
    refine va_get (D := gD g) (ci := 1) (v := .ref b) (C := R_S) (T := F_S) (N := 1) hx hb hF.2.2.2.2 in_S hF.2.2.2.1 hK hP 0 rfl rfl 0 (by decide) (hF.2.2.2.2 _ fl_S_12) (fun _ h9 => h9) rfl d_S_write_116 ?_
    refine lv_iload_n hx hb d_S_write_119 rfl (lv_at hl 0 rfl) ?_
    refine go_r (wr := [(s0, .inr (1, [.ref b])), (b, .inr (3, [.ref v_2, .int 0, .int ml_2, .int (nI ([] : List Nat).length)])), (v_2, .inl (gB g, cp, .inl f_2))]) (run_SN hF G.1 (c_B_name g l _ (nI pj)) k_B_name j_S_39 (cw_down G hP hD hS hA [] rfl rfl) ⟨Nat.le_of_ble_eq_true rfl, Nat.le_of_ble_eq_true rfl⟩ rfl hl.1 (Nat.le_of_ble_eq_true rfl) d_S_write_120 ⟨(by first | exact Nat.le_of_ble_eq_true rfl | (dsimp only; omega) | omega), (by first | exact Nat.le_of_ble_eq_true rfl | (dsimp only; omega) | omega)⟩) hP hD hS hA [] [0, 1, 2] rfl rfl rfl (by decide) (fun r_24 w1 H locs hp hP hD hS => ?_)
    obtain ⟨er, rfl⟩ := hp
    rw [er]
    have hP : va_P (gD g) classes [(s0, .inr (1, [.ref b])), (b, .inr (3, [.ref v_2, .int 0, .int ml_2, .int (nI ([] : List Nat).length)])), (v_2, .inl (gB g, cp, .inl f_2))] H := hP
    have hD : va_D A [(s0, .inr (1, [.ref b])), (b, .inr (3, [.ref v_2, .int 0, .int ml_2, .int (nI ([] : List Nat).length)])), (v_2, .inl (gB g, cp, .inl f_2))] := hD
    have h21_25 := li_40 (f_B_name (nI pj)) (nm_lt (nI pj))
    have hga_26 := gc_le (([] : List Nat).length + (li_x (f_B_name (nI pj))).length) cp (by omega)
    have hgb_26 := gs_le (([] : List Nat).length + (li_x (f_B_name (nI pj))).length) cp
    have hgd_26 := sb_cap_gem (([] : List Nat).length + (li_x (f_B_name (nI pj))).length) cp
    have hgc_26 := cap_le (([] : List Nat).length + (li_x (f_B_name (nI pj))).length) cp (by omega) (by omega)
    refine go_r (wr := [(s0, .inr (1, [.ref b]))]) (run_V hF (c_SB_append_S g l _ b v_2 cp ml_2 f_2 ([] : List Nat) ht_2 (f_B_name (nI pj)) (nm_lt (nI pj)) (by omega)) k_SB_append_S j_S_61 se_SB_SB_append_S (va_recv hK hP (ci := 3) (q0 := 1) rfl rfl) (cw_down G hP hD hS hA [1, 2] rfl rfl) ⟨Nat.le_of_ble_eq_true rfl, Nat.le_of_ble_eq_true rfl⟩ rfl hl.1 (Nat.le_of_ble_eq_true rfl) d_S_write_123 ⟨(by first | exact Nat.le_of_ble_eq_true rfl | (dsimp only; omega) | omega), (by first | exact Nat.le_of_ble_eq_true rfl | (dsimp only; omega) | omega)⟩) hP hD hS hA [1, 2] [0] rfl rfl rfl (by decide) (fun r_27 w1 H locs hp hP hD hS => ?_)
    obtain ⟨er, v_28, f_28, rfl, ht_28⟩ := hp
    rw [er]
    have hge_29 := ht_28.2.2.1
    have hgf_29 : (([] : List Nat) ++ li_x (f_B_name (nI pj))).length = (([] : List Nat).length + (li_x (f_B_name (nI pj))).length) := by rw [List.length_append]
    have hP : va_P (gD g) classes [(s0, .inr (1, [.ref b])), (b, .inr (3, [.ref v_28, .int 0, .int ml_2, .int (nI (([] : List Nat) ++ li_x (f_B_name (nI pj))).length)])), (v_28, .inl (gB g, (sb_cap (([] : List Nat).length + (li_x (f_B_name (nI pj))).length) cp), .inl f_28))] H := hP
    have hD : va_D A [(s0, .inr (1, [.ref b])), (b, .inr (3, [.ref v_28, .int 0, .int ml_2, .int (nI (([] : List Nat) ++ li_x (f_B_name (nI pj))).length)])), (v_28, .inl (gB g, (sb_cap (([] : List Nat).length + (li_x (f_B_name (nI pj))).length) cp), .inl f_28))] := hD
    refine lv_pop hx hb d_S_write_126 rfl ?_
    refine lv_aload_n hx hb d_S_write_127 rfl (lv_at hl 1 rfl) ?_
    refine lv_iload_n hx hb d_S_write_128 rfl (lv_at hl 2 rfl) ?_
    refine go_v (wr := []) (run_V hF (c_S_addBrackets g l _ s0 b v_28 (sb_cap (([] : List Nat).length + (li_x (f_B_name (nI pj))).length) cp) ml_2 f_28 (([] : List Nat) ++ li_x (f_B_name (nI pj))) ht_28 t (by omega) hL) k_S_addBrackets j_S_47 se_S_S_addBrackets (va_recv hK hP (ci := 1) (q0 := 0) rfl rfl) (cw_down G hP hD hS hA [0, 1, 2] rfl rfl) ⟨Nat.le_of_ble_eq_true rfl, Nat.le_of_ble_eq_true rfl⟩ rfl hl.1 (Nat.le_of_ble_eq_true rfl) d_S_write_129 ⟨(by first | exact Nat.le_of_ble_eq_true rfl | (dsimp only; omega) | omega), (by first | exact Nat.le_of_ble_eq_true rfl | (dsimp only; omega) | omega)⟩) hP hD hS hA [0, 1, 2] [] rfl rfl rfl (by decide) (fun w1 H locs hp hP hD hS => ?_)
    obtain ⟨v_31, cp_31, ml_31, f_31, rfl, ht_31, hn_31⟩ := hp
    have hka_31 := ht_31.2.1
    have hkb_31 := ht_31.2.2.1
    have hP : va_P (gD g) classes [(s0, .inr (1, [.ref b])), (b, .inr (3, [.ref v_31, .int 0, .int ml_31, .int (nI (z_S_addBrackets (([] : List Nat) ++ li_x (f_B_name (nI pj))) t).length)])), (v_31, .inl (gB g, cp_31, .inl f_31))] H := hP
    have hD : va_D A [(s0, .inr (1, [.ref b])), (b, .inr (3, [.ref v_31, .int 0, .int ml_31, .int (nI (z_S_addBrackets (([] : List Nat) ++ li_x (f_B_name (nI pj))) t).length)])), (v_31, .inl (gB g, cp_31, .inl f_31))] := hD
    refine lv_iconst (v := 1) hx hb d_S_write_132 (by decide) ?_
    have e : zf_S_write t pj wh = ((z_S_addBrackets (([] : List Nat) ++ li_x (f_B_name (nI pj))) t), (1 : Int32)) := by rw [zf_S_write, if_neg c_4, if_neg c_7, if_neg c_13, if_pos c_23]
    exact ret_i hx hb hr hlk (hP.sub (ws' := [(s0, .inr (1, [.ref b])), (b, .inr (3, [.ref v_31, .int 0, .int ml_31, .int (nI (z_S_addBrackets (([] : List Nat) ++ li_x (f_B_name (nI pj))) t).length)])), (v_31, .inl (gB g, cp_31, .inl f_31))]) [0, 1, 2] rfl) (hD.sub (ws' := [(s0, .inr (1, [.ref b])), (b, .inr (3, [.ref v_31, .int 0, .int ml_31, .int (nI (z_S_addBrackets (([] : List Nat) ++ li_x (f_B_name (nI pj))) t).length)])), (v_31, .inl (gB g, cp_31, .inl f_31))]) [0, 1, 2] rfl rfl) hS (by decide) ⟨_, _, _, _, by rw [e], by rw [e]; exact ht_31, by rw [e]⟩ (by first | exact Nat.le_of_ble_eq_true rfl | (dsimp only; omega) | omega) (by first | exact Nat.le_of_ble_eq_true rfl | (dsimp only; omega) | omega) d_S_write_133
  by_cases c_32 : wh = 4
  · refine lv_tableIn (tgt := 134) (off := 120) hx hb d_S_write_14 (by rw [c_32]; decide) (by rw [c_32]; decide) (by rw [c_32]; decide) (by decide) ?_
    refine lv_aload_n hx hb d_S_write_134 rfl (lv_at hl 1 rfl) ?_
    refine va_get (D := gD g) (ci := 1) (v := .ref b) (C := R_S) (T := F_S) (N := 1) hx hb hF.2.2.2.2 in_S hF.2.2.2.1 hK hP 0 rfl rfl 0 (by decide) (hF.2.2.2.2 _ fl_S_12) (fun _ h9 => h9) rfl d_S_write_135 ?_
    refine lv_iload_n hx hb d_S_write_138 rfl (lv_at hl 0 rfl) ?_
    refine lv_bipush (v := 10) hx hb d_S_write_139 (by decide) ?_
    refine lv_icmp_gt (tgt := 149) hx hb d_S_write_141 (by decide) (fun c_33 => ?_) (fun c_33 => ?_)
    · skip
      refine va_ldcS hx hb hF.2.2.2.1 (lr_29 G) d_S_write_149 ?_
      have h21_34 := li_40 29 (by decide)
      have hga_35 := gc_le (([] : List Nat).length + (li_x 29).length) cp (by omega)
      have hgb_35 := gs_le (([] : List Nat).length + (li_x 29).length) cp
      have hgd_35 := sb_cap_gem (([] : List Nat).length + (li_x 29).length) cp
      have hgc_35 := cap_le (([] : List Nat).length + (li_x 29).length) cp (by omega) (by omega)
      refine go_r (wr := [(s0, .inr (1, [.ref b]))]) (run_V hF (c_SB_append_S g l _ b v_2 cp ml_2 f_2 ([] : List Nat) ht_2 29 (by decide) (by omega)) k_SB_append_S j_S_61 se_SB_SB_append_S (va_recv hK hP (ci := 3) (q0 := 1) rfl rfl) (cw_down G hP hD hS hA [1, 2] rfl rfl) ⟨Nat.le_of_ble_eq_true rfl, Nat.le_of_ble_eq_true rfl⟩ rfl hl.1 (Nat.le_of_ble_eq_true rfl) d_S_write_151 ⟨(by first | exact Nat.le_of_ble_eq_true rfl | (dsimp only; omega) | omega), (by first | exact Nat.le_of_ble_eq_true rfl | (dsimp only; omega) | omega)⟩) hP hD hS hA [1, 2] [0] rfl rfl rfl (by decide) (fun r_36 w1 H locs hp hP hD hS => ?_)
      obtain ⟨er, v_37, f_37, rfl, ht_37⟩ := hp
      rw [er]
      have hge_38 := ht_37.2.2.1
      have hgf_38 : (([] : List Nat) ++ li_x 29).length = (([] : List Nat).length + (li_x 29).length) := by rw [List.length_append]
      have hP : va_P (gD g) classes [(s0, .inr (1, [.ref b])), (b, .inr (3, [.ref v_37, .int 0, .int ml_2, .int (nI (([] : List Nat) ++ li_x 29).length)])), (v_37, .inl (gB g, (sb_cap (([] : List Nat).length + (li_x 29).length) cp), .inl f_37))] H := hP
      have hD : va_D A [(s0, .inr (1, [.ref b])), (b, .inr (3, [.ref v_37, .int 0, .int ml_2, .int (nI (([] : List Nat) ++ li_x 29).length)])), (v_37, .inl (gB g, (sb_cap (([] : List Nat).length + (li_x 29).length) cp), .inl f_37))] := hD
      refine lv_pop hx hb d_S_write_154 rfl ?_
      refine lv_iconst (v := 1) hx hb d_S_write_155 (by decide) ?_
      have e : zf_S_write t pj wh = ((([] : List Nat) ++ li_x 29), (1 : Int32)) := by rw [zf_S_write, if_neg c_4, if_neg c_7, if_neg c_13, if_neg c_23, if_pos c_32, if_pos c_33]
      exact ret_i hx hb hr hlk (hP.sub (ws' := [(s0, .inr (1, [.ref b])), (b, .inr (3, [.ref v_37, .int 0, .int ml_2, .int (nI (([] : List Nat) ++ li_x 29).length)])), (v_37, .inl (gB g, (sb_cap (([] : List Nat).length + (li_x 29).length) cp), .inl f_37))]) [0, 1, 2] rfl) (hD.sub (ws' := [(s0, .inr (1, [.ref b])), (b, .inr (3, [.ref v_37, .int 0, .int ml_2, .int (nI (([] : List Nat) ++ li_x 29).length)])), (v_37, .inl (gB g, (sb_cap (([] : List Nat).length + (li_x 29).length) cp), .inl f_37))]) [0, 1, 2] rfl rfl) hS (by decide) ⟨_, _, _, _, by rw [e], by rw [e]; exact ht_37, by rw [e]⟩ (by first | exact Nat.le_of_ble_eq_true rfl | (dsimp only; omega) | omega) (by first | exact Nat.le_of_ble_eq_true rfl | (dsimp only; omega) | omega) d_S_write_156
    · skip
      refine va_ldcS hx hb hF.2.2.2.1 (lr_28 G) d_S_write_144 ?_
      refine lv_goto (tgt := 151) hx hb d_S_write_146 (by decide) ?_
      have h21_39 := li_40 28 (by decide)
      have hga_40 := gc_le (([] : List Nat).length + (li_x 28).length) cp (by omega)
      have hgb_40 := gs_le (([] : List Nat).length + (li_x 28).length) cp
      have hgd_40 := sb_cap_gem (([] : List Nat).length + (li_x 28).length) cp
      have hgc_40 := cap_le (([] : List Nat).length + (li_x 28).length) cp (by omega) (by omega)
      refine go_r (wr := [(s0, .inr (1, [.ref b]))]) (run_V hF (c_SB_append_S g l _ b v_2 cp ml_2 f_2 ([] : List Nat) ht_2 28 (by decide) (by omega)) k_SB_append_S j_S_61 se_SB_SB_append_S (va_recv hK hP (ci := 3) (q0 := 1) rfl rfl) (cw_down G hP hD hS hA [1, 2] rfl rfl) ⟨Nat.le_of_ble_eq_true rfl, Nat.le_of_ble_eq_true rfl⟩ rfl hl.1 (Nat.le_of_ble_eq_true rfl) d_S_write_151 ⟨(by first | exact Nat.le_of_ble_eq_true rfl | (dsimp only; omega) | omega), (by first | exact Nat.le_of_ble_eq_true rfl | (dsimp only; omega) | omega)⟩) hP hD hS hA [1, 2] [0] rfl rfl rfl (by decide) (fun r_41 w1 H locs hp hP hD hS => ?_)
      obtain ⟨er, v_42, f_42, rfl, ht_42⟩ := hp
      rw [er]
      have hge_43 := ht_42.2.2.1
      have hgf_43 : (([] : List Nat) ++ li_x 28).length = (([] : List Nat).length + (li_x 28).length) := by rw [List.length_append]
      have hP : va_P (gD g) classes [(s0, .inr (1, [.ref b])), (b, .inr (3, [.ref v_42, .int 0, .int ml_2, .int (nI (([] : List Nat) ++ li_x 28).length)])), (v_42, .inl (gB g, (sb_cap (([] : List Nat).length + (li_x 28).length) cp), .inl f_42))] H := hP
      have hD : va_D A [(s0, .inr (1, [.ref b])), (b, .inr (3, [.ref v_42, .int 0, .int ml_2, .int (nI (([] : List Nat) ++ li_x 28).length)])), (v_42, .inl (gB g, (sb_cap (([] : List Nat).length + (li_x 28).length) cp), .inl f_42))] := hD
      refine lv_pop hx hb d_S_write_154 rfl ?_
      refine lv_iconst (v := 1) hx hb d_S_write_155 (by decide) ?_
      have e : zf_S_write t pj wh = ((([] : List Nat) ++ li_x 28), (1 : Int32)) := by rw [zf_S_write, if_neg c_4, if_neg c_7, if_neg c_13, if_neg c_23, if_pos c_32, if_neg c_33]
      exact ret_i hx hb hr hlk (hP.sub (ws' := [(s0, .inr (1, [.ref b])), (b, .inr (3, [.ref v_42, .int 0, .int ml_2, .int (nI (([] : List Nat) ++ li_x 28).length)])), (v_42, .inl (gB g, (sb_cap (([] : List Nat).length + (li_x 28).length) cp), .inl f_42))]) [0, 1, 2] rfl) (hD.sub (ws' := [(s0, .inr (1, [.ref b])), (b, .inr (3, [.ref v_42, .int 0, .int ml_2, .int (nI (([] : List Nat) ++ li_x 28).length)])), (v_42, .inl (gB g, (sb_cap (([] : List Nat).length + (li_x 28).length) cp), .inl f_42))]) [0, 1, 2] rfl rfl) hS (by decide) ⟨_, _, _, _, by rw [e], by rw [e]; exact ht_42, by rw [e]⟩ (by first | exact Nat.le_of_ble_eq_true rfl | (dsimp only; omega) | omega) (by first | exact Nat.le_of_ble_eq_true rfl | (dsimp only; omega) | omega) d_S_write_156
  by_cases c_44 : wh = 5
  · refine lv_tableIn (tgt := 157) (off := 143) hx hb d_S_write_14 (by rw [c_44]; decide) (by rw [c_44]; decide) (by rw [c_44]; decide) (by decide) ?_
    refine lv_aload_n hx hb d_S_write_157 rfl (lv_at hl 1 rfl) ?_
    refine lv_iload_n hx hb d_S_write_158 rfl (lv_at hl 2 rfl) ?_
    refine go_v (wr := []) (run_V hF (c_S_addKind g l _ s0 b v_2 cp ml_2 f_2 ([] : List Nat) ht_2 t (by omega)) k_S_addKind j_S_69 se_S_S_addKind (va_recv hK hP (ci := 1) (q0 := 0) rfl rfl) (cw_down G hP hD hS hA [0, 1, 2] rfl rfl) ⟨Nat.le_of_ble_eq_true rfl, Nat.le_of_ble_eq_true rfl⟩ rfl hl.1 (Nat.le_of_ble_eq_true rfl) d_S_write_159 ⟨(by first | exact Nat.le_of_ble_eq_true rfl | (dsimp only; omega) | omega), (by first | exact Nat.le_of_ble_eq_true rfl | (dsimp only; omega) | omega)⟩) hP hD hS hA [0, 1, 2] [] rfl rfl rfl (by decide) (fun w1 H locs hp hP hD hS => ?_)
    obtain ⟨v_46, cp_46, ml_46, f_46, rfl, ht_46, hn_46⟩ := hp
    have hka_46 := ht_46.2.1
    have hkb_46 := ht_46.2.2.1
    have hP : va_P (gD g) classes [(s0, .inr (1, [.ref b])), (b, .inr (3, [.ref v_46, .int 0, .int ml_46, .int (nI (z_S_addKind ([] : List Nat) t).length)])), (v_46, .inl (gB g, cp_46, .inl f_46))] H := hP
    have hD : va_D A [(s0, .inr (1, [.ref b])), (b, .inr (3, [.ref v_46, .int 0, .int ml_46, .int (nI (z_S_addKind ([] : List Nat) t).length)])), (v_46, .inl (gB g, cp_46, .inl f_46))] := hD
    refine lv_aload_n hx hb d_S_write_162 rfl (lv_at hl 1 rfl) ?_
    refine lv_iload_n hx hb d_S_write_163 rfl (lv_at hl 2 rfl) ?_
    refine go_v (wr := []) (run_V hF (c_S_addName g l _ s0 b v_46 cp_46 ml_46 f_46 (z_S_addKind ([] : List Nat) t) ht_46 t pj (by omega) hL hpj hp25) k_S_addName j_S_36 se_S_S_addName (va_recv hK hP (ci := 1) (q0 := 0) rfl rfl) (cw_down G hP hD hS hA [0, 1, 2] rfl rfl) ⟨Nat.le_of_ble_eq_true rfl, Nat.le_of_ble_eq_true rfl⟩ rfl hl.1 (Nat.le_of_ble_eq_true rfl) d_S_write_164 ⟨(by first | exact Nat.le_of_ble_eq_true rfl | (dsimp only; omega) | omega), (by first | exact Nat.le_of_ble_eq_true rfl | (dsimp only; omega) | omega)⟩) hP hD hS hA [0, 1, 2] [] rfl rfl rfl (by decide) (fun w1 H locs hp hP hD hS => ?_)
    obtain ⟨v_48, cp_48, ml_48, f_48, rfl, ht_48, hn_48⟩ := hp
    have hka_48 := ht_48.2.1
    have hkb_48 := ht_48.2.2.1
    have hP : va_P (gD g) classes [(s0, .inr (1, [.ref b])), (b, .inr (3, [.ref v_48, .int 0, .int ml_48, .int (nI (z_S_addName (z_S_addKind ([] : List Nat) t) t pj).length)])), (v_48, .inl (gB g, cp_48, .inl f_48))] H := hP
    have hD : va_D A [(s0, .inr (1, [.ref b])), (b, .inr (3, [.ref v_48, .int 0, .int ml_48, .int (nI (z_S_addName (z_S_addKind ([] : List Nat) t) t pj).length)])), (v_48, .inl (gB g, cp_48, .inl f_48))] := hD
    refine lv_iconst (v := 1) hx hb d_S_write_167 (by decide) ?_
    have e : zf_S_write t pj wh = ((z_S_addName (z_S_addKind ([] : List Nat) t) t pj), (1 : Int32)) := by rw [zf_S_write, if_neg c_4, if_neg c_7, if_neg c_13, if_neg c_23, if_neg c_32, if_pos c_44]
    exact ret_i hx hb hr hlk (hP.sub (ws' := [(s0, .inr (1, [.ref b])), (b, .inr (3, [.ref v_48, .int 0, .int ml_48, .int (nI (z_S_addName (z_S_addKind ([] : List Nat) t) t pj).length)])), (v_48, .inl (gB g, cp_48, .inl f_48))]) [0, 1, 2] rfl) (hD.sub (ws' := [(s0, .inr (1, [.ref b])), (b, .inr (3, [.ref v_48, .int 0, .int ml_48, .int (nI (z_S_addName (z_S_addKind ([] : List Nat) t) t pj).length)])), (v_48, .inl (gB g, cp_48, .inl f_48))]) [0, 1, 2] rfl rfl) hS (by decide) ⟨_, _, _, _, by rw [e], by rw [e]; exact ht_48, by rw [e]⟩ (by first | exact Nat.le_of_ble_eq_true rfl | (dsimp only; omega) | omega) (by first | exact Nat.le_of_ble_eq_true rfl | (dsimp only; omega) | omega) d_S_write_168
  by_cases c_49 : wh = 6
  · refine lv_tableIn (tgt := 169) (off := 155) hx hb d_S_write_14 (by rw [c_49]; decide) (by rw [c_49]; decide) (by rw [c_49]; decide) (by decide) ?_
    refine lv_aload_n hx hb d_S_write_169 rfl (lv_at hl 1 rfl) ?_
    refine lv_iload_n hx hb d_S_write_170 rfl (lv_at hl 2 rfl) ?_
    refine lv_bipush (v := 47) hx hb d_S_write_171 (by decide) ?_
    refine go_v (wr := []) (run_V hF (c_S_addCode g l _ s0 b v_2 cp ml_2 f_2 ([] : List Nat) ht_2 t pj 47 (by omega) hL hpj hp25 (by decide)) k_S_addCode j_S_72 se_S_S_addCode (va_recv hK hP (ci := 1) (q0 := 0) rfl rfl) (cw_down G hP hD hS hA [0, 1, 2] rfl rfl) ⟨Nat.le_of_ble_eq_true rfl, Nat.le_of_ble_eq_true rfl⟩ rfl hl.1 (Nat.le_of_ble_eq_true rfl) d_S_write_173 ⟨(by first | exact Nat.le_of_ble_eq_true rfl | (dsimp only; omega) | omega), (by first | exact Nat.le_of_ble_eq_true rfl | (dsimp only; omega) | omega)⟩) hP hD hS hA [0, 1, 2] [] rfl rfl rfl (by decide) (fun w1 H locs hp hP hD hS => ?_)
    obtain ⟨v_51, cp_51, ml_51, f_51, rfl, ht_51, hn_51⟩ := hp
    have hka_51 := ht_51.2.1
    have hkb_51 := ht_51.2.2.1
    have hP : va_P (gD g) classes [(s0, .inr (1, [.ref b])), (b, .inr (3, [.ref v_51, .int 0, .int ml_51, .int (nI (z_S_addCode ([] : List Nat) t pj 47).length)])), (v_51, .inl (gB g, cp_51, .inl f_51))] H := hP
    have hD : va_D A [(s0, .inr (1, [.ref b])), (b, .inr (3, [.ref v_51, .int 0, .int ml_51, .int (nI (z_S_addCode ([] : List Nat) t pj 47).length)])), (v_51, .inl (gB g, cp_51, .inl f_51))] := hD
    refine lv_iconst (v := 1) hx hb d_S_write_176 (by decide) ?_
    have e : zf_S_write t pj wh = ((z_S_addCode ([] : List Nat) t pj 47), (1 : Int32)) := by rw [zf_S_write, if_neg c_4, if_neg c_7, if_neg c_13, if_neg c_23, if_neg c_32, if_neg c_44, if_pos c_49]
    exact ret_i hx hb hr hlk (hP.sub (ws' := [(s0, .inr (1, [.ref b])), (b, .inr (3, [.ref v_51, .int 0, .int ml_51, .int (nI (z_S_addCode ([] : List Nat) t pj 47).length)])), (v_51, .inl (gB g, cp_51, .inl f_51))]) [0, 1, 2] rfl) (hD.sub (ws' := [(s0, .inr (1, [.ref b])), (b, .inr (3, [.ref v_51, .int 0, .int ml_51, .int (nI (z_S_addCode ([] : List Nat) t pj 47).length)])), (v_51, .inl (gB g, cp_51, .inl f_51))]) [0, 1, 2] rfl rfl) hS (by decide) ⟨_, _, _, _, by rw [e], by rw [e]; exact ht_51, by rw [e]⟩ (by first | exact Nat.le_of_ble_eq_true rfl | (dsimp only; omega) | omega) (by first | exact Nat.le_of_ble_eq_true rfl | (dsimp only; omega) | omega) d_S_write_177
  refine lv_tableOut (tgt := 178) hx hb d_S_write_14 (by have := lv_neT (a := 0) c_4 (by decide); have := lv_neT (a := 1) c_7 (by decide); have := lv_neT (a := 2) c_13 (by decide); have := lv_neT (a := 3) c_23 (by decide); have := lv_neT (a := 4) c_32 (by decide); have := lv_neT (a := 5) c_44 (by decide); have := lv_neT (a := 6) c_49 (by decide); omega) (by decide) ?_
  refine lv_aload_n hx hb d_S_write_178 rfl (lv_at hl 1 rfl) ?_
  refine lv_iload_n hx hb d_S_write_179 rfl (lv_at hl 2 rfl) ?_
  refine pm_callNE hF hN (c_B_modifiers l t) k_B_modifiers j_S_76 ⟨Nat.le_of_ble_eq_true rfl, Nat.le_of_ble_eq_true rfl⟩ rfl hl.1 (Nat.le_of_ble_eq_true rfl) d_S_write_180 ⟨by first | exact Nat.le_of_ble_eq_true rfl | (dsimp only; omega) | omega | exact Nat.zero_le _, by first | exact Nat.le_of_ble_eq_true rfl | (dsimp only; omega) | omega | exact Nat.zero_le _⟩ ?_
  refine go_v (wr := []) (run_V hF (c_S_addModifiers g l _ s0 b v_2 cp ml_2 f_2 ([] : List Nat) ht_2 (f_B_modifiers t) (by omega)) k_S_addModifiers j_S_79 se_S_S_addModifiers (va_recv hK hP (ci := 1) (q0 := 0) rfl rfl) (cw_down G hP hD hS hA [0, 1, 2] rfl rfl) ⟨Nat.le_of_ble_eq_true rfl, Nat.le_of_ble_eq_true rfl⟩ rfl hl.1 (Nat.le_of_ble_eq_true rfl) d_S_write_183 ⟨(by first | exact Nat.le_of_ble_eq_true rfl | (dsimp only; omega) | omega), (by first | exact Nat.le_of_ble_eq_true rfl | (dsimp only; omega) | omega)⟩) hP hD hS hA [0, 1, 2] [] rfl rfl rfl (by decide) (fun w1 H locs hp hP hD hS => ?_)
  obtain ⟨v_54, cp_54, ml_54, f_54, rfl, ht_54, hn_54⟩ := hp
  have hka_54 := ht_54.2.1
  have hkb_54 := ht_54.2.2.1
  have hP : va_P (gD g) classes [(s0, .inr (1, [.ref b])), (b, .inr (3, [.ref v_54, .int 0, .int ml_54, .int (nI (z_S_addModifiers ([] : List Nat) (f_B_modifiers t)).length)])), (v_54, .inl (gB g, cp_54, .inl f_54))] H := hP
  have hD : va_D A [(s0, .inr (1, [.ref b])), (b, .inr (3, [.ref v_54, .int 0, .int ml_54, .int (nI (z_S_addModifiers ([] : List Nat) (f_B_modifiers t)).length)])), (v_54, .inl (gB g, cp_54, .inl f_54))] := hD
  refine lv_iconst (v := 1) hx hb d_S_write_186 (by decide) ?_
  have e : zf_S_write t pj wh = ((z_S_addModifiers ([] : List Nat) (f_B_modifiers t)), (1 : Int32)) := by rw [zf_S_write, if_neg c_4, if_neg c_7, if_neg c_13, if_neg c_23, if_neg c_32, if_neg c_44, if_neg c_49]
  exact ret_i hx hb hr hlk (hP.sub (ws' := [(s0, .inr (1, [.ref b])), (b, .inr (3, [.ref v_54, .int 0, .int ml_54, .int (nI (z_S_addModifiers ([] : List Nat) (f_B_modifiers t)).length)])), (v_54, .inl (gB g, cp_54, .inl f_54))]) [0, 1, 2] rfl) (hD.sub (ws' := [(s0, .inr (1, [.ref b])), (b, .inr (3, [.ref v_54, .int 0, .int ml_54, .int (nI (z_S_addModifiers ([] : List Nat) (f_B_modifiers t)).length)])), (v_54, .inl (gB g, cp_54, .inl f_54))]) [0, 1, 2] rfl rfl) hS (by decide) ⟨_, _, _, _, by rw [e], by rw [e]; exact ht_54, by rw [e]⟩ (by first | exact Nat.le_of_ble_eq_true rfl | (dsimp only; omega) | omega) (by first | exact Nat.le_of_ble_eq_true rfl | (dsimp only; omega) | omega) d_S_write_187
set_option maxRecDepth 100000 in
theorem k_S_length : ck y_S_length b_S_length 1 (some .int) 0 (.instanceMethod y_S_length) := ⟨tk_of (List.mem_of_getElem? (i := 435) rfl) rfl, tk_of (List.mem_of_getElem? (i := 434) (by decide +kernel)) rfl, tk_of (List.mem_of_getElem? (i := 37) (by decide +kernel)) rfl, by decide +kernel⟩
set_option maxHeartbeats 4000000 in
set_option maxRecDepth 100000 in
theorem c_S_length (g : gT) (l : Launch) (sz : Nat) (s0 b v cp : Nat) (ml : Int32) (a : Nat → Int32) (xs : List Nat) (ht : tx xs cp a) : Mg g l y_S_length b_S_length 1 (some .int) 2 40 0 0 [.ref s0] [(s0, .inr (1, [.ref b])), (b, .inr (3, [.ref v, .int 0, .int ml, .int (nI xs.length)])), (v, .inl (gB g, cp, .inl a))] sz (qI g (fun r w1 => r = nI xs.length ∧ w1 = [(s0, .inr (1, [.ref b])), (b, .inr (3, [.ref v, .int 0, .int ml, .int (nI xs.length)])), (v, .inl (gB g, cp, .inl a))])) := by
  refine mg_of (by decide) (Nat.le_of_ble_eq_true rfl) ?_
  intro p e s m below meth c ls A hx hb hF hr hlk hnm hA G hP hD hS hl
  have hK := G.2.1
  have hN := G.1
  have hl : lv_has ls 1 [(0, .ref s0)] := hl
  refine lv_aload_n hx hb d_S_length_0 rfl (lv_at hl 0 rfl) ?_
  refine va_get (D := gD g) (ci := 1) (v := .ref b) (C := R_S) (T := F_S) (N := 1) hx hb hF.2.2.2.2 in_S hF.2.2.2.1 hK hP 0 rfl rfl 0 (by decide) (hF.2.2.2.2 _ fl_S_12) (fun _ h9 => h9) rfl d_S_length_1 ?_
  refine go_i (wr := [(s0, .inr (1, [.ref b]))]) (run_V hF (c_SB_length g l _ b v xs.length cp ml a) k_SB_length j_S_18 se_SB_SB_length (va_recv hK hP (ci := 3) (q0 := 1) rfl rfl) (cw_down G hP hD hS hA [1, 2] rfl rfl) ⟨Nat.le_of_ble_eq_true rfl, Nat.le_of_ble_eq_true rfl⟩ rfl hl.1 (Nat.le_of_ble_eq_true rfl) d_S_length_4 ⟨(by first | exact Nat.le_of_ble_eq_true rfl | (dsimp only; omega) | omega), (by first | exact Nat.le_of_ble_eq_true rfl | (dsimp only; omega) | omega)⟩) hP hD hS hA [1, 2] [0] rfl rfl rfl (by decide) (fun r_1 w1 H locs hp hP hD hS => ?_)
  obtain ⟨rfl, rfl⟩ := hp
  have hP : va_P (gD g) classes [(s0, .inr (1, [.ref b])), (b, .inr (3, [.ref v, .int 0, .int ml, .int (nI xs.length)])), (v, .inl (gB g, cp, .inl a))] H := hP
  have hD : va_D A [(s0, .inr (1, [.ref b])), (b, .inr (3, [.ref v, .int 0, .int ml, .int (nI xs.length)])), (v, .inl (gB g, cp, .inl a))] := hD
  exact ret_i hx hb hr hlk (hP.sub (ws' := [(s0, .inr (1, [.ref b])), (b, .inr (3, [.ref v, .int 0, .int ml, .int (nI xs.length)])), (v, .inl (gB g, cp, .inl a))]) [0, 1, 2] rfl) (hD.sub (ws' := [(s0, .inr (1, [.ref b])), (b, .inr (3, [.ref v, .int 0, .int ml, .int (nI xs.length)])), (v, .inl (gB g, cp, .inl a))]) [0, 1, 2] rfl rfl) hS (nar_i _) ⟨rfl, rfl⟩ (by first | exact Nat.le_of_ble_eq_true rfl | (dsimp only; omega) | omega) (by first | exact Nat.le_of_ble_eq_true rfl | (dsimp only; omega) | omega) d_S_length_7
set_option maxRecDepth 100000 in
theorem k_S_codeAt : ck y_S_codeAt b_S_codeAt 2 (some .int) 1 (.instanceMethod y_S_codeAt) := ⟨tk_of (List.mem_of_getElem? (i := 439) rfl) rfl, tk_of (List.mem_of_getElem? (i := 438) (by decide +kernel)) rfl, tk_of (List.mem_of_getElem? (i := 37) (by decide +kernel)) rfl, by decide +kernel⟩
theorem j_S_22 : Cond.methodLink R_S 22 y_SB_charAt ∈ tk := tk_of (List.mem_of_getElem? (i := 440) (by decide +kernel)) rfl
theorem se_SB_SB_charAt : Cond.selects R_SB y_SB_charAt y_SB_charAt ∈ tk := tk_of (List.mem_of_getElem? (i := 442) (by decide +kernel)) rfl
set_option maxHeartbeats 4000000 in
set_option maxRecDepth 100000 in
theorem c_S_codeAt (g : gT) (l : Launch) (sz : Nat) (s0 b v cp : Nat) (ml : Int32) (a : Nat → Int32) (xs : List Nat) (ht : tx xs cp a) (i : Nat) (hi : i < xs.length) : Mg g l y_S_codeAt b_S_codeAt 2 (some .int) 4 88 0 0 [.ref s0, .int (nI i)] [(s0, .inr (1, [.ref b])), (b, .inr (3, [.ref v, .int 0, .int ml, .int (nI xs.length)])), (v, .inl (gB g, cp, .inl a))] sz (qI g (fun r w1 => r = nI (xs.getD i 0) ∧ w1 = [(s0, .inr (1, [.ref b])), (b, .inr (3, [.ref v, .int 0, .int ml, .int (nI xs.length)])), (v, .inl (gB g, cp, .inl a))])) := by
  refine mg_of (by decide) (Nat.le_of_ble_eq_true rfl) ?_
  intro p e s m below meth c ls A hx hb hF hr hlk hnm hA G hP hD hS hl
  have hK := G.2.1
  have hN := G.1
  have hl : lv_has ls 2 [(0, .ref s0), (1, .int (nI i))] := hl
  refine lv_aload_n hx hb d_S_codeAt_0 rfl (lv_at hl 0 rfl) ?_
  refine va_get (D := gD g) (ci := 1) (v := .ref b) (C := R_S) (T := F_S) (N := 1) hx hb hF.2.2.2.2 in_S hF.2.2.2.1 hK hP 0 rfl rfl 0 (by decide) (hF.2.2.2.2 _ fl_S_12) (fun _ h9 => h9) rfl d_S_codeAt_1 ?_
  refine lv_iload_n hx hb d_S_codeAt_4 rfl (lv_at hl 1 rfl) ?_
  refine go_i (wr := [(s0, .inr (1, [.ref b]))]) (run_V hF (c_SB_charAt g l _ b v cp ml a xs ht i hi) k_SB_charAt j_S_22 se_SB_SB_charAt (va_recv hK hP (ci := 3) (q0 := 1) rfl rfl) (cw_down G hP hD hS hA [1, 2] rfl rfl) ⟨Nat.le_of_ble_eq_true rfl, Nat.le_of_ble_eq_true rfl⟩ rfl hl.1 (Nat.le_of_ble_eq_true rfl) d_S_codeAt_5 ⟨(by first | exact Nat.le_of_ble_eq_true rfl | (dsimp only; omega) | omega), (by first | exact Nat.le_of_ble_eq_true rfl | (dsimp only; omega) | omega)⟩) hP hD hS hA [1, 2] [0] rfl rfl rfl (by decide) (fun r_1 w1 H locs hp hP hD hS => ?_)
  obtain ⟨rfl, rfl⟩ := hp
  have hP : va_P (gD g) classes [(s0, .inr (1, [.ref b])), (b, .inr (3, [.ref v, .int 0, .int ml, .int (nI xs.length)])), (v, .inl (gB g, cp, .inl a))] H := hP
  have hD : va_D A [(s0, .inr (1, [.ref b])), (b, .inr (3, [.ref v, .int 0, .int ml, .int (nI xs.length)])), (v, .inl (gB g, cp, .inl a))] := hD
  exact ret_i hx hb hr hlk (hP.sub (ws' := [(s0, .inr (1, [.ref b])), (b, .inr (3, [.ref v, .int 0, .int ml, .int (nI xs.length)])), (v, .inl (gB g, cp, .inl a))]) [0, 1, 2] rfl) (hD.sub (ws' := [(s0, .inr (1, [.ref b])), (b, .inr (3, [.ref v, .int 0, .int ml, .int (nI xs.length)])), (v, .inl (gB g, cp, .inl a))]) [0, 1, 2] rfl rfl) hS (nar_i _) ⟨rfl, rfl⟩ (by first | exact Nat.le_of_ble_eq_true rfl | (dsimp only; omega) | omega) (by first | exact Nat.le_of_ble_eq_true rfl | (dsimp only; omega) | omega) d_S_codeAt_8
