def f_B_name (t : Int32) : Nat := (if t = 0 then 1 else (if t = 1 then 2 else (if t = 2 then 3 else (if t = 3 then 4 else (if t = 4 then 5 else (if t = 5 then 6 else (if t = 6 then 7 else (if t = 7 then 8 else (if t = 8 then 9 else (if t = 9 then 10 else (if t = 10 then 11 else (if t = 11 then 12 else (if t = 12 then 13 else (if t = 13 then 14 else (if t = 14 then 15 else (if t = 15 then 16 else (if t = 16 then 17 else (if t = 17 then 18 else (if t = 18 then 19 else (if t = 19 then 20 else (if t = 20 then 21 else (if t = 21 then 22 else (if t = 22 then 23 else (if t = 23 then 24 else (if t = 24 then 25 else 26)))))))))))))))))))))))))
set_option maxRecDepth 100000 in
theorem k_B_name : ck y_B_name b_B_name 1 (some (.object "java/lang/String")) 1 (.static y_B_name) := ⟨tk_of (List.mem_of_getElem? (i := 299) rfl) rfl, tk_of (List.mem_of_getElem? (i := 298) (by decide +kernel)) rfl, tk_of (List.mem_of_getElem? (i := 44) (by decide +kernel)) rfl, by decide +kernel⟩
theorem lr_1 {g : gT} {A : Nat → Prop} {s : State} {H : Heap} (G : Gx g A s H) : vk_R R_B 18 "boolean" (gK g 1) s := G.2.2.1 1 ("ClassProbe$Bench", 18, "boolean") (by decide +kernel)
theorem lr_2 {g : gT} {A : Nat → Prop} {s : State} {H : Heap} (G : Gx g A s H) : vk_R R_B 20 "byte" (gK g 2) s := G.2.2.1 2 ("ClassProbe$Bench", 20, "byte") (by decide +kernel)
theorem lr_3 {g : gT} {A : Nat → Prop} {s : State} {H : Heap} (G : Gx g A s H) : vk_R R_B 22 "char" (gK g 3) s := G.2.2.1 3 ("ClassProbe$Bench", 22, "char") (by decide +kernel)
theorem lr_4 {g : gT} {A : Nat → Prop} {s : State} {H : Heap} (G : Gx g A s H) : vk_R R_B 24 "short" (gK g 4) s := G.2.2.1 4 ("ClassProbe$Bench", 24, "short") (by decide +kernel)
theorem lr_5 {g : gT} {A : Nat → Prop} {s : State} {H : Heap} (G : Gx g A s H) : vk_R R_B 26 "int" (gK g 5) s := G.2.2.1 5 ("ClassProbe$Bench", 26, "int") (by decide +kernel)
theorem lr_6 {g : gT} {A : Nat → Prop} {s : State} {H : Heap} (G : Gx g A s H) : vk_R R_B 28 "long" (gK g 6) s := G.2.2.1 6 ("ClassProbe$Bench", 28, "long") (by decide +kernel)
theorem lr_7 {g : gT} {A : Nat → Prop} {s : State} {H : Heap} (G : Gx g A s H) : vk_R R_B 30 "float" (gK g 7) s := G.2.2.1 7 ("ClassProbe$Bench", 30, "float") (by decide +kernel)
theorem lr_8 {g : gT} {A : Nat → Prop} {s : State} {H : Heap} (G : Gx g A s H) : vk_R R_B 32 "double" (gK g 8) s := G.2.2.1 8 ("ClassProbe$Bench", 32, "double") (by decide +kernel)
theorem lr_9 {g : gT} {A : Nat → Prop} {s : State} {H : Heap} (G : Gx g A s H) : vk_R R_B 34 "void" (gK g 9) s := G.2.2.1 9 ("ClassProbe$Bench", 34, "void") (by decide +kernel)
theorem lr_10 {g : gT} {A : Nat → Prop} {s : State} {H : Heap} (G : Gx g A s H) : vk_R R_B 36 "java.lang.Object" (gK g 10) s := G.2.2.1 10 ("ClassProbe$Bench", 36, "java.lang.Object") (by decide +kernel)
theorem lr_11 {g : gT} {A : Nat → Prop} {s : State} {H : Heap} (G : Gx g A s H) : vk_R R_B 38 "java.lang.Runnable" (gK g 11) s := G.2.2.1 11 ("ClassProbe$Bench", 38, "java.lang.Runnable") (by decide +kernel)
theorem lr_12 {g : gT} {A : Nat → Prop} {s : State} {H : Heap} (G : Gx g A s H) : vk_R R_B 40 "ClassProbe" (gK g 12) s := G.2.2.1 12 ("ClassProbe$Bench", 40, "ClassProbe") (by decide +kernel)
theorem lr_13 {g : gT} {A : Nat → Prop} {s : State} {H : Heap} (G : Gx g A s H) : vk_R R_B 41 "ClassProbe$Mark" (gK g 13) s := G.2.2.1 13 ("ClassProbe$Bench", 41, "ClassProbe$Mark") (by decide +kernel)
theorem lr_14 {g : gT} {A : Nat → Prop} {s : State} {H : Heap} (G : Gx g A s H) : vk_R R_B 43 "ClassProbe$Shape" (gK g 14) s := G.2.2.1 14 ("ClassProbe$Bench", 43, "ClassProbe$Shape") (by decide +kernel)
theorem lr_15 {g : gT} {A : Nat → Prop} {s : State} {H : Heap} (G : Gx g A s H) : vk_R R_B 45 "ClassProbe$Circle" (gK g 15) s := G.2.2.1 15 ("ClassProbe$Bench", 45, "ClassProbe$Circle") (by decide +kernel)
theorem lr_16 {g : gT} {A : Nat → Prop} {s : State} {H : Heap} (G : Gx g A s H) : vk_R R_B 47 "ClassProbe$Square" (gK g 16) s := G.2.2.1 16 ("ClassProbe$Bench", 47, "ClassProbe$Square") (by decide +kernel)
theorem lr_17 {g : gT} {A : Nat → Prop} {s : State} {H : Heap} (G : Gx g A s H) : vk_R R_B 49 "ClassProbe$Color" (gK g 17) s := G.2.2.1 17 ("ClassProbe$Bench", 49, "ClassProbe$Color") (by decide +kernel)
theorem lr_18 {g : gT} {A : Nat → Prop} {s : State} {H : Heap} (G : Gx g A s H) : vk_R R_B 51 "ClassProbe$Color$1" (gK g 18) s := G.2.2.1 18 ("ClassProbe$Bench", 51, "ClassProbe$Color$1") (by decide +kernel)
theorem lr_19 {g : gT} {A : Nat → Prop} {s : State} {H : Heap} (G : Gx g A s H) : vk_R R_B 53 "ClassProbe$Inner" (gK g 19) s := G.2.2.1 19 ("ClassProbe$Bench", 53, "ClassProbe$Inner") (by decide +kernel)
theorem lr_20 {g : gT} {A : Nat → Prop} {s : State} {H : Heap} (G : Gx g A s H) : vk_R R_B 55 "ClassProbe$Inner$Deep" (gK g 20) s := G.2.2.1 20 ("ClassProbe$Bench", 55, "ClassProbe$Inner$Deep") (by decide +kernel)
theorem lr_21 {g : gT} {A : Nat → Prop} {s : State} {H : Heap} (G : Gx g A s H) : vk_R R_B 57 "ClassProbe$Note" (gK g 21) s := G.2.2.1 21 ("ClassProbe$Bench", 57, "ClassProbe$Note") (by decide +kernel)
theorem lr_22 {g : gT} {A : Nat → Prop} {s : State} {H : Heap} (G : Gx g A s H) : vk_R R_B 59 "ClassProbe$Box" (gK g 22) s := G.2.2.1 22 ("ClassProbe$Bench", 59, "ClassProbe$Box") (by decide +kernel)
theorem lr_23 {g : gT} {A : Nat → Prop} {s : State} {H : Heap} (G : Gx g A s H) : vk_R R_B 61 "ClassProbe$Tall" (gK g 23) s := G.2.2.1 23 ("ClassProbe$Bench", 61, "ClassProbe$Tall") (by decide +kernel)
theorem lr_24 {g : gT} {A : Nat → Prop} {s : State} {H : Heap} (G : Gx g A s H) : vk_R R_B 63 "ClassProbe$1Local" (gK g 24) s := G.2.2.1 24 ("ClassProbe$Bench", 63, "ClassProbe$1Local") (by decide +kernel)
theorem lr_25 {g : gT} {A : Nat → Prop} {s : State} {H : Heap} (G : Gx g A s H) : vk_R R_B 65 "ClassProbe$1" (gK g 25) s := G.2.2.1 25 ("ClassProbe$Bench", 65, "ClassProbe$1") (by decide +kernel)
theorem lr_26 {g : gT} {A : Nat → Prop} {s : State} {H : Heap} (G : Gx g A s H) : vk_R R_B 67 "" (gK g 26) s := G.2.2.1 26 ("ClassProbe$Bench", 67, "") (by decide +kernel)
set_option maxHeartbeats 4000000 in
set_option maxRecDepth 100000 in
theorem c_B_name (g : gT) (l : Launch) (sz : Nat) (t : Int32) : Mg g l y_B_name b_B_name 1 (some (.object "java/lang/String")) 0 0 0 0 [.int t] [] sz (qR g (fun r w1 => r = gK g (f_B_name t) ∧ w1 = [])) := by
  refine mg_of (by decide) (Nat.le_of_ble_eq_true rfl) ?_
  intro p e s m below meth c ls A hx hb hF hr hlk hnm hA G hP hD hS hl
  have hK := G.2.1
  have hN := G.1
  have hl : lv_has ls 1 [(0, .int t)] := hl
  refine lv_iload_n hx hb d_B_name_0 rfl (lv_at hl 0 rfl) ?_
  by_cases c_1 : t = 0
  · refine lv_tableIn (tgt := 116) (off := 115) hx hb d_B_name_1 (by rw [c_1]; decide) (by rw [c_1]; decide) (by rw [c_1]; decide) (by decide) ?_
    refine va_ldcS hx hb hF.2.2.2.1 (lr_1 G) d_B_name_116 ?_
    exact ret_r hx hb hr (Or.inl ⟨_, rfl⟩) hlk hP hD hS ⟨by rw [f_B_name, if_pos c_1], rfl⟩ (by first | exact Nat.le_of_ble_eq_true rfl | (dsimp only; omega) | omega) (by first | exact Nat.le_of_ble_eq_true rfl | (dsimp only; omega) | omega) d_B_name_118
  by_cases c_2 : t = 1
  · refine lv_tableIn (tgt := 119) (off := 118) hx hb d_B_name_1 (by rw [c_2]; decide) (by rw [c_2]; decide) (by rw [c_2]; decide) (by decide) ?_
    refine va_ldcS hx hb hF.2.2.2.1 (lr_2 G) d_B_name_119 ?_
    exact ret_r hx hb hr (Or.inl ⟨_, rfl⟩) hlk hP hD hS ⟨by rw [f_B_name, if_neg c_1, if_pos c_2], rfl⟩ (by first | exact Nat.le_of_ble_eq_true rfl | (dsimp only; omega) | omega) (by first | exact Nat.le_of_ble_eq_true rfl | (dsimp only; omega) | omega) d_B_name_121
  by_cases c_3 : t = 2
  · refine lv_tableIn (tgt := 122) (off := 121) hx hb d_B_name_1 (by rw [c_3]; decide) (by rw [c_3]; decide) (by rw [c_3]; decide) (by decide) ?_
    refine va_ldcS hx hb hF.2.2.2.1 (lr_3 G) d_B_name_122 ?_
    exact ret_r hx hb hr (Or.inl ⟨_, rfl⟩) hlk hP hD hS ⟨by rw [f_B_name, if_neg c_1, if_neg c_2, if_pos c_3], rfl⟩ (by first | exact Nat.le_of_ble_eq_true rfl | (dsimp only; omega) | omega) (by first | exact Nat.le_of_ble_eq_true rfl | (dsimp only; omega) | omega) d_B_name_124
  by_cases c_4 : t = 3
  · refine lv_tableIn (tgt := 125) (off := 124) hx hb d_B_name_1 (by rw [c_4]; decide) (by rw [c_4]; decide) (by rw [c_4]; decide) (by decide) ?_
    refine va_ldcS hx hb hF.2.2.2.1 (lr_4 G) d_B_name_125 ?_
    exact ret_r hx hb hr (Or.inl ⟨_, rfl⟩) hlk hP hD hS ⟨by rw [f_B_name, if_neg c_1, if_neg c_2, if_neg c_3, if_pos c_4], rfl⟩ (by first | exact Nat.le_of_ble_eq_true rfl | (dsimp only; omega) | omega) (by first | exact Nat.le_of_ble_eq_true rfl | (dsimp only; omega) | omega) d_B_name_127
  by_cases c_5 : t = 4
  · refine lv_tableIn (tgt := 128) (off := 127) hx hb d_B_name_1 (by rw [c_5]; decide) (by rw [c_5]; decide) (by rw [c_5]; decide) (by decide) ?_
    refine va_ldcS hx hb hF.2.2.2.1 (lr_5 G) d_B_name_128 ?_
    exact ret_r hx hb hr (Or.inl ⟨_, rfl⟩) hlk hP hD hS ⟨by rw [f_B_name, if_neg c_1, if_neg c_2, if_neg c_3, if_neg c_4, if_pos c_5], rfl⟩ (by first | exact Nat.le_of_ble_eq_true rfl | (dsimp only; omega) | omega) (by first | exact Nat.le_of_ble_eq_true rfl | (dsimp only; omega) | omega) d_B_name_130
  by_cases c_6 : t = 5
  · refine lv_tableIn (tgt := 131) (off := 130) hx hb d_B_name_1 (by rw [c_6]; decide) (by rw [c_6]; decide) (by rw [c_6]; decide) (by decide) ?_
    refine va_ldcS hx hb hF.2.2.2.1 (lr_6 G) d_B_name_131 ?_
    exact ret_r hx hb hr (Or.inl ⟨_, rfl⟩) hlk hP hD hS ⟨by rw [f_B_name, if_neg c_1, if_neg c_2, if_neg c_3, if_neg c_4, if_neg c_5, if_pos c_6], rfl⟩ (by first | exact Nat.le_of_ble_eq_true rfl | (dsimp only; omega) | omega) (by first | exact Nat.le_of_ble_eq_true rfl | (dsimp only; omega) | omega) d_B_name_133
  by_cases c_7 : t = 6
  · refine lv_tableIn (tgt := 134) (off := 133) hx hb d_B_name_1 (by rw [c_7]; decide) (by rw [c_7]; decide) (by rw [c_7]; decide) (by decide) ?_
    refine va_ldcS hx hb hF.2.2.2.1 (lr_7 G) d_B_name_134 ?_
    exact ret_r hx hb hr (Or.inl ⟨_, rfl⟩) hlk hP hD hS ⟨by rw [f_B_name, if_neg c_1, if_neg c_2, if_neg c_3, if_neg c_4, if_neg c_5, if_neg c_6, if_pos c_7], rfl⟩ (by first | exact Nat.le_of_ble_eq_true rfl | (dsimp only; omega) | omega) (by first | exact Nat.le_of_ble_eq_true rfl | (dsimp only; omega) | omega) d_B_name_136
  by_cases c_8 : t = 7
  · refine lv_tableIn (tgt := 137) (off := 136) hx hb d_B_name_1 (by rw [c_8]; decide) (by rw [c_8]; decide) (by rw [c_8]; decide) (by decide) ?_
    refine va_ldcS hx hb hF.2.2.2.1 (lr_8 G) d_B_name_137 ?_
    exact ret_r hx hb hr (Or.inl ⟨_, rfl⟩) hlk hP hD hS ⟨by rw [f_B_name, if_neg c_1, if_neg c_2, if_neg c_3, if_neg c_4, if_neg c_5, if_neg c_6, if_neg c_7, if_pos c_8], rfl⟩ (by first | exact Nat.le_of_ble_eq_true rfl | (dsimp only; omega) | omega) (by first | exact Nat.le_of_ble_eq_true rfl | (dsimp only; omega) | omega) d_B_name_139
  by_cases c_9 : t = 8
  · refine lv_tableIn (tgt := 140) (off := 139) hx hb d_B_name_1 (by rw [c_9]; decide) (by rw [c_9]; decide) (by rw [c_9]; decide) (by decide) ?_
    refine va_ldcS hx hb hF.2.2.2.1 (lr_9 G) d_B_name_140 ?_
    exact ret_r hx hb hr (Or.inl ⟨_, rfl⟩) hlk hP hD hS ⟨by rw [f_B_name, if_neg c_1, if_neg c_2, if_neg c_3, if_neg c_4, if_neg c_5, if_neg c_6, if_neg c_7, if_neg c_8, if_pos c_9], rfl⟩ (by first | exact Nat.le_of_ble_eq_true rfl | (dsimp only; omega) | omega) (by first | exact Nat.le_of_ble_eq_true rfl | (dsimp only; omega) | omega) d_B_name_142
  by_cases c_10 : t = 9
  · refine lv_tableIn (tgt := 143) (off := 142) hx hb d_B_name_1 (by rw [c_10]; decide) (by rw [c_10]; decide) (by rw [c_10]; decide) (by decide) ?_
    refine va_ldcS hx hb hF.2.2.2.1 (lr_10 G) d_B_name_143 ?_
    exact ret_r hx hb hr (Or.inl ⟨_, rfl⟩) hlk hP hD hS ⟨by rw [f_B_name, if_neg c_1, if_neg c_2, if_neg c_3, if_neg c_4, if_neg c_5, if_neg c_6, if_neg c_7, if_neg c_8, if_neg c_9, if_pos c_10], rfl⟩ (by first | exact Nat.le_of_ble_eq_true rfl | (dsimp only; omega) | omega) (by first | exact Nat.le_of_ble_eq_true rfl | (dsimp only; omega) | omega) d_B_name_145
  by_cases c_11 : t = 10
  · refine lv_tableIn (tgt := 146) (off := 145) hx hb d_B_name_1 (by rw [c_11]; decide) (by rw [c_11]; decide) (by rw [c_11]; decide) (by decide) ?_
    refine va_ldcS hx hb hF.2.2.2.1 (lr_11 G) d_B_name_146 ?_
    exact ret_r hx hb hr (Or.inl ⟨_, rfl⟩) hlk hP hD hS ⟨by rw [f_B_name, if_neg c_1, if_neg c_2, if_neg c_3, if_neg c_4, if_neg c_5, if_neg c_6, if_neg c_7, if_neg c_8, if_neg c_9, if_neg c_10, if_pos c_11], rfl⟩ (by first | exact Nat.le_of_ble_eq_true rfl | (dsimp only; omega) | omega) (by first | exact Nat.le_of_ble_eq_true rfl | (dsimp only; omega) | omega) d_B_name_148
  by_cases c_12 : t = 11
  · refine lv_tableIn (tgt := 149) (off := 148) hx hb d_B_name_1 (by rw [c_12]; decide) (by rw [c_12]; decide) (by rw [c_12]; decide) (by decide) ?_
    refine va_ldcS hx hb hF.2.2.2.1 (lr_12 G) d_B_name_149 ?_
    exact ret_r hx hb hr (Or.inl ⟨_, rfl⟩) hlk hP hD hS ⟨by rw [f_B_name, if_neg c_1, if_neg c_2, if_neg c_3, if_neg c_4, if_neg c_5, if_neg c_6, if_neg c_7, if_neg c_8, if_neg c_9, if_neg c_10, if_neg c_11, if_pos c_12], rfl⟩ (by first | exact Nat.le_of_ble_eq_true rfl | (dsimp only; omega) | omega) (by first | exact Nat.le_of_ble_eq_true rfl | (dsimp only; omega) | omega) d_B_name_151
  by_cases c_13 : t = 12
  · refine lv_tableIn (tgt := 152) (off := 151) hx hb d_B_name_1 (by rw [c_13]; decide) (by rw [c_13]; decide) (by rw [c_13]; decide) (by decide) ?_
    refine va_ldcS hx hb hF.2.2.2.1 (lr_13 G) d_B_name_152 ?_
    exact ret_r hx hb hr (Or.inl ⟨_, rfl⟩) hlk hP hD hS ⟨by rw [f_B_name, if_neg c_1, if_neg c_2, if_neg c_3, if_neg c_4, if_neg c_5, if_neg c_6, if_neg c_7, if_neg c_8, if_neg c_9, if_neg c_10, if_neg c_11, if_neg c_12, if_pos c_13], rfl⟩ (by first | exact Nat.le_of_ble_eq_true rfl | (dsimp only; omega) | omega) (by first | exact Nat.le_of_ble_eq_true rfl | (dsimp only; omega) | omega) d_B_name_154
  by_cases c_14 : t = 13
  · refine lv_tableIn (tgt := 155) (off := 154) hx hb d_B_name_1 (by rw [c_14]; decide) (by rw [c_14]; decide) (by rw [c_14]; decide) (by decide) ?_
    refine va_ldcS hx hb hF.2.2.2.1 (lr_14 G) d_B_name_155 ?_
    exact ret_r hx hb hr (Or.inl ⟨_, rfl⟩) hlk hP hD hS ⟨by rw [f_B_name, if_neg c_1, if_neg c_2, if_neg c_3, if_neg c_4, if_neg c_5, if_neg c_6, if_neg c_7, if_neg c_8, if_neg c_9, if_neg c_10, if_neg c_11, if_neg c_12, if_neg c_13, if_pos c_14], rfl⟩ (by first | exact Nat.le_of_ble_eq_true rfl | (dsimp only; omega) | omega) (by first | exact Nat.le_of_ble_eq_true rfl | (dsimp only; omega) | omega) d_B_name_157
  by_cases c_15 : t = 14
  · refine lv_tableIn (tgt := 158) (off := 157) hx hb d_B_name_1 (by rw [c_15]; decide) (by rw [c_15]; decide) (by rw [c_15]; decide) (by decide) ?_
    refine va_ldcS hx hb hF.2.2.2.1 (lr_15 G) d_B_name_158 ?_
    exact ret_r hx hb hr (Or.inl ⟨_, rfl⟩) hlk hP hD hS ⟨by rw [f_B_name, if_neg c_1, if_neg c_2, if_neg c_3, if_neg c_4, if_neg c_5, if_neg c_6, if_neg c_7, if_neg c_8, if_neg c_9, if_neg c_10, if_neg c_11, if_neg c_12, if_neg c_13, if_neg c_14, if_pos c_15], rfl⟩ (by first | exact Nat.le_of_ble_eq_true rfl | (dsimp only; omega) | omega) (by first | exact Nat.le_of_ble_eq_true rfl | (dsimp only; omega) | omega) d_B_name_160
  by_cases c_16 : t = 15
  · refine lv_tableIn (tgt := 161) (off := 160) hx hb d_B_name_1 (by rw [c_16]; decide) (by rw [c_16]; decide) (by rw [c_16]; decide) (by decide) ?_
    refine va_ldcS hx hb hF.2.2.2.1 (lr_16 G) d_B_name_161 ?_
    exact ret_r hx hb hr (Or.inl ⟨_, rfl⟩) hlk hP hD hS ⟨by rw [f_B_name, if_neg c_1, if_neg c_2, if_neg c_3, if_neg c_4, if_neg c_5, if_neg c_6, if_neg c_7, if_neg c_8, if_neg c_9, if_neg c_10, if_neg c_11, if_neg c_12, if_neg c_13, if_neg c_14, if_neg c_15, if_pos c_16], rfl⟩ (by first | exact Nat.le_of_ble_eq_true rfl | (dsimp only; omega) | omega) (by first | exact Nat.le_of_ble_eq_true rfl | (dsimp only; omega) | omega) d_B_name_163
  by_cases c_17 : t = 16
  · refine lv_tableIn (tgt := 164) (off := 163) hx hb d_B_name_1 (by rw [c_17]; decide) (by rw [c_17]; decide) (by rw [c_17]; decide) (by decide) ?_
    refine va_ldcS hx hb hF.2.2.2.1 (lr_17 G) d_B_name_164 ?_
    exact ret_r hx hb hr (Or.inl ⟨_, rfl⟩) hlk hP hD hS ⟨by rw [f_B_name, if_neg c_1, if_neg c_2, if_neg c_3, if_neg c_4, if_neg c_5, if_neg c_6, if_neg c_7, if_neg c_8, if_neg c_9, if_neg c_10, if_neg c_11, if_neg c_12, if_neg c_13, if_neg c_14, if_neg c_15, if_neg c_16, if_pos c_17], rfl⟩ (by first | exact Nat.le_of_ble_eq_true rfl | (dsimp only; omega) | omega) (by first | exact Nat.le_of_ble_eq_true rfl | (dsimp only; omega) | omega) d_B_name_166
  by_cases c_18 : t = 17
  · refine lv_tableIn (tgt := 167) (off := 166) hx hb d_B_name_1 (by rw [c_18]; decide) (by rw [c_18]; decide) (by rw [c_18]; decide) (by decide) ?_
    refine va_ldcS hx hb hF.2.2.2.1 (lr_18 G) d_B_name_167 ?_
    exact ret_r hx hb hr (Or.inl ⟨_, rfl⟩) hlk hP hD hS ⟨by rw [f_B_name, if_neg c_1, if_neg c_2, if_neg c_3, if_neg c_4, if_neg c_5, if_neg c_6, if_neg c_7, if_neg c_8, if_neg c_9, if_neg c_10, if_neg c_11, if_neg c_12, if_neg c_13, if_neg c_14, if_neg c_15, if_neg c_16, if_neg c_17, if_pos c_18], rfl⟩ (by first | exact Nat.le_of_ble_eq_true rfl | (dsimp only; omega) | omega) (by first | exact Nat.le_of_ble_eq_true rfl | (dsimp only; omega) | omega) d_B_name_169
  by_cases c_19 : t = 18
  · refine lv_tableIn (tgt := 170) (off := 169) hx hb d_B_name_1 (by rw [c_19]; decide) (by rw [c_19]; decide) (by rw [c_19]; decide) (by decide) ?_
    refine va_ldcS hx hb hF.2.2.2.1 (lr_19 G) d_B_name_170 ?_
    exact ret_r hx hb hr (Or.inl ⟨_, rfl⟩) hlk hP hD hS ⟨by rw [f_B_name, if_neg c_1, if_neg c_2, if_neg c_3, if_neg c_4, if_neg c_5, if_neg c_6, if_neg c_7, if_neg c_8, if_neg c_9, if_neg c_10, if_neg c_11, if_neg c_12, if_neg c_13, if_neg c_14, if_neg c_15, if_neg c_16, if_neg c_17, if_neg c_18, if_pos c_19], rfl⟩ (by first | exact Nat.le_of_ble_eq_true rfl | (dsimp only; omega) | omega) (by first | exact Nat.le_of_ble_eq_true rfl | (dsimp only; omega) | omega) d_B_name_172
  by_cases c_20 : t = 19
  · refine lv_tableIn (tgt := 173) (off := 172) hx hb d_B_name_1 (by rw [c_20]; decide) (by rw [c_20]; decide) (by rw [c_20]; decide) (by decide) ?_
    refine va_ldcS hx hb hF.2.2.2.1 (lr_20 G) d_B_name_173 ?_
    exact ret_r hx hb hr (Or.inl ⟨_, rfl⟩) hlk hP hD hS ⟨by rw [f_B_name, if_neg c_1, if_neg c_2, if_neg c_3, if_neg c_4, if_neg c_5, if_neg c_6, if_neg c_7, if_neg c_8, if_neg c_9, if_neg c_10, if_neg c_11, if_neg c_12, if_neg c_13, if_neg c_14, if_neg c_15, if_neg c_16, if_neg c_17, if_neg c_18, if_neg c_19, if_pos c_20], rfl⟩ (by first | exact Nat.le_of_ble_eq_true rfl | (dsimp only; omega) | omega) (by first | exact Nat.le_of_ble_eq_true rfl | (dsimp only; omega) | omega) d_B_name_175
  by_cases c_21 : t = 20
  · refine lv_tableIn (tgt := 176) (off := 175) hx hb d_B_name_1 (by rw [c_21]; decide) (by rw [c_21]; decide) (by rw [c_21]; decide) (by decide) ?_
    refine va_ldcS hx hb hF.2.2.2.1 (lr_21 G) d_B_name_176 ?_
    exact ret_r hx hb hr (Or.inl ⟨_, rfl⟩) hlk hP hD hS ⟨by rw [f_B_name, if_neg c_1, if_neg c_2, if_neg c_3, if_neg c_4, if_neg c_5, if_neg c_6, if_neg c_7, if_neg c_8, if_neg c_9, if_neg c_10, if_neg c_11, if_neg c_12, if_neg c_13, if_neg c_14, if_neg c_15, if_neg c_16, if_neg c_17, if_neg c_18, if_neg c_19, if_neg c_20, if_pos c_21], rfl⟩ (by first | exact Nat.le_of_ble_eq_true rfl | (dsimp only; omega) | omega) (by first | exact Nat.le_of_ble_eq_true rfl | (dsimp only; omega) | omega) d_B_name_178
  by_cases c_22 : t = 21
  · refine lv_tableIn (tgt := 179) (off := 178) hx hb d_B_name_1 (by rw [c_22]; decide) (by rw [c_22]; decide) (by rw [c_22]; decide) (by decide) ?_
    refine va_ldcS hx hb hF.2.2.2.1 (lr_22 G) d_B_name_179 ?_
    exact ret_r hx hb hr (Or.inl ⟨_, rfl⟩) hlk hP hD hS ⟨by rw [f_B_name, if_neg c_1, if_neg c_2, if_neg c_3, if_neg c_4, if_neg c_5, if_neg c_6, if_neg c_7, if_neg c_8, if_neg c_9, if_neg c_10, if_neg c_11, if_neg c_12, if_neg c_13, if_neg c_14, if_neg c_15, if_neg c_16, if_neg c_17, if_neg c_18, if_neg c_19, if_neg c_20, if_neg c_21, if_pos c_22], rfl⟩ (by first | exact Nat.le_of_ble_eq_true rfl | (dsimp only; omega) | omega) (by first | exact Nat.le_of_ble_eq_true rfl | (dsimp only; omega) | omega) d_B_name_181
  by_cases c_23 : t = 22
  · refine lv_tableIn (tgt := 182) (off := 181) hx hb d_B_name_1 (by rw [c_23]; decide) (by rw [c_23]; decide) (by rw [c_23]; decide) (by decide) ?_
    refine va_ldcS hx hb hF.2.2.2.1 (lr_23 G) d_B_name_182 ?_
    exact ret_r hx hb hr (Or.inl ⟨_, rfl⟩) hlk hP hD hS ⟨by rw [f_B_name, if_neg c_1, if_neg c_2, if_neg c_3, if_neg c_4, if_neg c_5, if_neg c_6, if_neg c_7, if_neg c_8, if_neg c_9, if_neg c_10, if_neg c_11, if_neg c_12, if_neg c_13, if_neg c_14, if_neg c_15, if_neg c_16, if_neg c_17, if_neg c_18, if_neg c_19, if_neg c_20, if_neg c_21, if_neg c_22, if_pos c_23], rfl⟩ (by first | exact Nat.le_of_ble_eq_true rfl | (dsimp only; omega) | omega) (by first | exact Nat.le_of_ble_eq_true rfl | (dsimp only; omega) | omega) d_B_name_184
  by_cases c_24 : t = 23
  · refine lv_tableIn (tgt := 185) (off := 184) hx hb d_B_name_1 (by rw [c_24]; decide) (by rw [c_24]; decide) (by rw [c_24]; decide) (by decide) ?_
    refine va_ldcS hx hb hF.2.2.2.1 (lr_24 G) d_B_name_185 ?_
    exact ret_r hx hb hr (Or.inl ⟨_, rfl⟩) hlk hP hD hS ⟨by rw [f_B_name, if_neg c_1, if_neg c_2, if_neg c_3, if_neg c_4, if_neg c_5, if_neg c_6, if_neg c_7, if_neg c_8, if_neg c_9, if_neg c_10, if_neg c_11, if_neg c_12, if_neg c_13, if_neg c_14, if_neg c_15, if_neg c_16, if_neg c_17, if_neg c_18, if_neg c_19, if_neg c_20, if_neg c_21, if_neg c_22, if_neg c_23, if_pos c_24], rfl⟩ (by first | exact Nat.le_of_ble_eq_true rfl | (dsimp only; omega) | omega) (by first | exact Nat.le_of_ble_eq_true rfl | (dsimp only; omega) | omega) d_B_name_187
  by_cases c_25 : t = 24
  · refine lv_tableIn (tgt := 188) (off := 187) hx hb d_B_name_1 (by rw [c_25]; decide) (by rw [c_25]; decide) (by rw [c_25]; decide) (by decide) ?_
    refine va_ldcS hx hb hF.2.2.2.1 (lr_25 G) d_B_name_188 ?_
    exact ret_r hx hb hr (Or.inl ⟨_, rfl⟩) hlk hP hD hS ⟨by rw [f_B_name, if_neg c_1, if_neg c_2, if_neg c_3, if_neg c_4, if_neg c_5, if_neg c_6, if_neg c_7, if_neg c_8, if_neg c_9, if_neg c_10, if_neg c_11, if_neg c_12, if_neg c_13, if_neg c_14, if_neg c_15, if_neg c_16, if_neg c_17, if_neg c_18, if_neg c_19, if_neg c_20, if_neg c_21, if_neg c_22, if_neg c_23, if_neg c_24, if_pos c_25], rfl⟩ (by first | exact Nat.le_of_ble_eq_true rfl | (dsimp only; omega) | omega) (by first | exact Nat.le_of_ble_eq_true rfl | (dsimp only; omega) | omega) d_B_name_190
  refine lv_tableOut (tgt := 191) hx hb d_B_name_1 (by have := lv_neT (a := 0) c_1 (by decide); have := lv_neT (a := 1) c_2 (by decide); have := lv_neT (a := 2) c_3 (by decide); have := lv_neT (a := 3) c_4 (by decide); have := lv_neT (a := 4) c_5 (by decide); have := lv_neT (a := 5) c_6 (by decide); have := lv_neT (a := 6) c_7 (by decide); have := lv_neT (a := 7) c_8 (by decide); have := lv_neT (a := 8) c_9 (by decide); have := lv_neT (a := 9) c_10 (by decide); have := lv_neT (a := 10) c_11 (by decide); have := lv_neT (a := 11) c_12 (by decide); have := lv_neT (a := 12) c_13 (by decide); have := lv_neT (a := 13) c_14 (by decide); have := lv_neT (a := 14) c_15 (by decide); have := lv_neT (a := 15) c_16 (by decide); have := lv_neT (a := 16) c_17 (by decide); have := lv_neT (a := 17) c_18 (by decide); have := lv_neT (a := 18) c_19 (by decide); have := lv_neT (a := 19) c_20 (by decide); have := lv_neT (a := 20) c_21 (by decide); have := lv_neT (a := 21) c_22 (by decide); have := lv_neT (a := 22) c_23 (by decide); have := lv_neT (a := 23) c_24 (by decide); have := lv_neT (a := 24) c_25 (by decide); omega) (by decide) ?_
  refine va_ldcS hx hb hF.2.2.2.1 (lr_26 G) d_B_name_191 ?_
  exact ret_r hx hb hr (Or.inl ⟨_, rfl⟩) hlk hP hD hS ⟨by rw [f_B_name, if_neg c_1, if_neg c_2, if_neg c_3, if_neg c_4, if_neg c_5, if_neg c_6, if_neg c_7, if_neg c_8, if_neg c_9, if_neg c_10, if_neg c_11, if_neg c_12, if_neg c_13, if_neg c_14, if_neg c_15, if_neg c_16, if_neg c_17, if_neg c_18, if_neg c_19, if_neg c_20, if_neg c_21, if_neg c_22, if_neg c_23, if_neg c_24, if_neg c_25], rfl⟩ (by first | exact Nat.le_of_ble_eq_true rfl | (dsimp only; omega) | omega) (by first | exact Nat.le_of_ble_eq_true rfl | (dsimp only; omega) | omega) d_B_name_193
theorem lt_ite {c : Prop} [Decidable c] {a b : Nat} (ha : a < 41) (hb : b < 41) : (if c then a else b) < 41 := by
  by_cases h : c
  · rw [if_pos h]; exact ha
  · rw [if_neg h]; exact hb
set_option maxRecDepth 100000 in
theorem nm_lt (t : Int32) : f_B_name t < 41 := by
  unfold f_B_name
  repeat' first | with_reducible refine lt_ite ?_ ?_ | decide
def zg_S_addWithChange (i : Nat) (od nw : Nat) : Nat → List Nat → List Nat
  | 0, xs => xs
  | d + 1, xs => (if (nI ((li_x i).getD ((li_x i).length - (d + 1)) 0)) = (nI od) then (zg_S_addWithChange i od nw d (xs ++ [nw])) else (zg_S_addWithChange i od nw d (xs ++ [((li_x i).getD ((li_x i).length - (d + 1)) 0)])))
set_option maxRecDepth 100000 in
theorem k_S_addWithChange : ck y_S_addWithChange b_S_addWithChange 6 (none) 3 (.instanceMethod y_S_addWithChange) := ⟨tk_of (List.mem_of_getElem? (i := 329) rfl) rfl, tk_of (List.mem_of_getElem? (i := 328) (by decide +kernel)) rfl, tk_of (List.mem_of_getElem? (i := 37) (by decide +kernel)) rfl, by decide +kernel⟩
theorem j_S_99 : Cond.methodLink R_S 99 y_St_length ∈ tk := tk_of (List.mem_of_getElem? (i := 330) (by decide +kernel)) rfl
theorem j_S_96 : Cond.methodLink R_S 96 y_St_charAt ∈ tk := tk_of (List.mem_of_getElem? (i := 278) (by decide +kernel)) rfl
theorem se_St_St_charAt : Cond.selects R_St y_St_charAt y_St_charAt ∈ tk := tk_of (List.mem_of_getElem? (i := 280) (by decide +kernel)) rfl
theorem fl_S_12 : Cond.fieldLink R_S 12 R_S "row" "Ljava/lang/StringBuilder;" ∈ tk := tk_of (List.mem_of_getElem? (i := 99) (by decide +kernel)) rfl
theorem j_S_88 : Cond.methodLink R_S 88 y_SB_append_C ∈ tk := tk_of (List.mem_of_getElem? (i := 219) (by decide +kernel)) rfl
theorem se_SB_SB_append_C : Cond.selects R_SB y_SB_append_C y_SB_append_C ∈ tk := tk_of (List.mem_of_getElem? (i := 221) (by decide +kernel)) rfl
set_option maxHeartbeats 4000000 in
set_option maxRecDepth 100000 in
theorem lp_S_addWithChange {p : Program} {l : Launch} {e : Env} {s : State} {m : MethodId} {args : Array Value} {below : List Frame} {meth : Method} {c : Code} {g : gT} {A : Nat → Prop} {Q : State → Prop} (s0 b : Nat) (i : Nat) (hi : i < 41) (od nw : Nat) (hnw : nw < 128) (hx : p.tables.exec = Jvm.exec) (hb : c.code = b_S_addWithChange) (hF : CallFix p m c b_S_addWithChange 6 s args tk R_S) (hA : ∀ q, s.heap.size ≤ q → A q) (G : Gx g A s s.heap) (E : List Nat)
    (hend : ∀ (v cp : Nat) (ml : Int32) (a : Nat → Int32), tx E cp a → ∀ (cells slots : Nat), 18 * cells + 16 ≤ cp → slots + 32 ≤ 2 * cp → ∀ (H : Heap) (locs : List Loc) (ls : Array Slot), va_P (gD g) classes [(s0, .inr (1, [.ref b])), (b, .inr (3, [.ref v, .int 0, .int ml, .int (nI E.length)])), (v, .inl (gB g, cp, .inl a))] H → va_D A [(s0, .inr (1, [.ref b])), (b, .inr (3, [.ref v, .int 0, .int ml, .int (nI E.length)])), (v, .inl (gB g, cp, .inl a))] → va_S A s.heap H locs → W p l e ({ frames := 6, cells := 7, slots := 252, locals := 146 }) s m args below meth c H locs cells slots Q (F0 m 46 ls [])) :
    ∀ (d : Nat) (xs : List Nat) (v cp : Nat) (ml : Int32) (a : Nat → Int32) (ht : tx xs cp a) (cells slots : Nat) (x : Int32), 18 * cells + 16 ≤ cp → slots + 32 ≤ 2 * cp → xs.length + d ≤ 70 → d ≤ (li_x i).length → x = nI ((li_x i).length - d) → zg_S_addWithChange i od nw d xs = E → ∀ (H : Heap) (locs : List Loc), va_P (gD g) classes [(s0, .inr (1, [.ref b])), (b, .inr (3, [.ref v, .int 0, .int ml, .int (nI xs.length)])), (v, .inl (gB g, cp, .inl a))] H → va_D A [(s0, .inr (1, [.ref b])), (b, .inr (3, [.ref v, .int 0, .int ml, .int (nI xs.length)])), (v, .inl (gB g, cp, .inl a))] → va_S A s.heap H locs → ∀ ls : Array Slot, lv_has ls 6 [(4, .int x), (0, .ref s0), (1, .ref (gK g i)), (2, .int (nI od)), (3, .int (nI nw))] → W p l e ({ frames := 6, cells := 7, slots := 252, locals := 146 }) s m args below meth c H locs cells slots Q (F0 m 3 ls []) := by
  have hK := G.2.1
  have hN := G.1
  have h21 := li_40 i hi
  intro d
  induction d with
  | zero =>
    intro xs v cp ml a ht cells slots x hc1 hc2 hlen hd ex hp1 H locs hP hD hS ls hl
    have ht1 := ht.1
    have ht2 := ht.2.1
    have ht3 := ht.2.2.1
    have hle : nI (li_x i).length ≤ x := by rw [ex]; exact nI_le (by omega) (by omega)
    refine lv_iload hx hb d_S_addWithChange_3 (lv_at hl 0 rfl) ?_
    refine lv_aload_n hx hb d_S_addWithChange_5 rfl (lv_at hl 2 rfl) ?_
    refine go_i (wr := [(s0, .inr (1, [.ref b])), (b, .inr (3, [.ref v, .int 0, .int ml, .int (nI xs.length)])), (v, .inl (gB g, cp, .inl a))]) (run_V hF (c_St_length g l _ i hi) k_St_length j_S_99 se_St_St_length (va_Orecv (G.2.2.2.1 i hi).1 hS) (cw_down G hP hD hS hA [] rfl rfl) ⟨Nat.le_of_ble_eq_true rfl, Nat.le_of_ble_eq_true rfl⟩ rfl hl.1 (Nat.le_of_ble_eq_true rfl) d_S_addWithChange_6 ⟨(by first | exact Nat.le_of_ble_eq_true rfl | (dsimp only; omega) | omega), (by first | exact Nat.le_of_ble_eq_true rfl | (dsimp only; omega) | omega)⟩) hP hD hS hA [] [0, 1, 2] rfl rfl rfl (by decide) (fun r_1 w1 H locs hp hP hD hS => ?_)
    obtain ⟨rfl, rfl⟩ := hp
    have hP : va_P (gD g) classes [(s0, .inr (1, [.ref b])), (b, .inr (3, [.ref v, .int 0, .int ml, .int (nI xs.length)])), (v, .inl (gB g, cp, .inl a))] H := hP
    have hD : va_D A [(s0, .inr (1, [.ref b])), (b, .inr (3, [.ref v, .int 0, .int ml, .int (nI xs.length)])), (v, .inl (gB g, cp, .inl a))] := hD
    refine lv_icmp_ge (tgt := 46) hx hb d_S_addWithChange_9 (by decide) (fun c_2 => ?_) (fun c_2 => absurd hle c_2)
    have e1 : xs = E := hp1
    subst e1
    exact hend _ _ _ _ ht _ _ hc1 hc2 H locs ls hP hD hS
  | succ d ih =>
    intro xs v cp ml a ht cells slots x hc1 hc2 hlen hd ex hp1 H locs hP hD hS ls hl
    have ht1 := ht.1
    have ht2 := ht.2.1
    have ht3 := ht.2.2.1
    have hj : (li_x i).length - (d + 1) < (li_x i).length := by omega
    have hlt : ¬ nI (li_x i).length ≤ x := by rw [ex]; exact nI_ge hj (by omega)
    refine lv_iload hx hb d_S_addWithChange_3 (lv_at hl 0 rfl) ?_
    refine lv_aload_n hx hb d_S_addWithChange_5 rfl (lv_at hl 2 rfl) ?_
    refine go_i (wr := [(s0, .inr (1, [.ref b])), (b, .inr (3, [.ref v, .int 0, .int ml, .int (nI xs.length)])), (v, .inl (gB g, cp, .inl a))]) (run_V hF (c_St_length g l _ i hi) k_St_length j_S_99 se_St_St_length (va_Orecv (G.2.2.2.1 i hi).1 hS) (cw_down G hP hD hS hA [] rfl rfl) ⟨Nat.le_of_ble_eq_true rfl, Nat.le_of_ble_eq_true rfl⟩ rfl hl.1 (Nat.le_of_ble_eq_true rfl) d_S_addWithChange_6 ⟨(by first | exact Nat.le_of_ble_eq_true rfl | (dsimp only; omega) | omega), (by first | exact Nat.le_of_ble_eq_true rfl | (dsimp only; omega) | omega)⟩) hP hD hS hA [] [0, 1, 2] rfl rfl rfl (by decide) (fun r_1 w1 H locs hp hP hD hS => ?_)
    obtain ⟨rfl, rfl⟩ := hp
    have hP : va_P (gD g) classes [(s0, .inr (1, [.ref b])), (b, .inr (3, [.ref v, .int 0, .int ml, .int (nI xs.length)])), (v, .inl (gB g, cp, .inl a))] H := hP
    have hD : va_D A [(s0, .inr (1, [.ref b])), (b, .inr (3, [.ref v, .int 0, .int ml, .int (nI xs.length)])), (v, .inl (gB g, cp, .inl a))] := hD
    refine lv_icmp_ge (tgt := 46) hx hb d_S_addWithChange_9 (by decide) (fun c_2 => absurd c_2 hlt) (fun c_2 => ?_)
    refine lv_aload_n hx hb d_S_addWithChange_12 rfl (lv_at hl 2 rfl) ?_
    refine lv_iload hx hb d_S_addWithChange_13 (lv_at hl 0 rfl) ?_
    refine tp_i ex ?_
    refine go_i (wr := [(s0, .inr (1, [.ref b])), (b, .inr (3, [.ref v, .int 0, .int ml, .int (nI xs.length)])), (v, .inl (gB g, cp, .inl a))]) (run_V hF (c_St_charAt g l _ i hi ((li_x i).length - (d + 1)) hj) k_St_charAt j_S_96 se_St_St_charAt (va_Orecv (G.2.2.2.1 i hi).1 hS) (cw_down G hP hD hS hA [] rfl rfl) ⟨Nat.le_of_ble_eq_true rfl, Nat.le_of_ble_eq_true rfl⟩ rfl hl.1 (Nat.le_of_ble_eq_true rfl) d_S_addWithChange_15 ⟨(by first | exact Nat.le_of_ble_eq_true rfl | (dsimp only; omega) | omega), (by first | exact Nat.le_of_ble_eq_true rfl | (dsimp only; omega) | omega)⟩) hP hD hS hA [] [0, 1, 2] rfl rfl rfl (by decide) (fun r_3 w1 H locs hp hP hD hS => ?_)
    obtain ⟨rfl, rfl⟩ := hp
    have hP : va_P (gD g) classes [(s0, .inr (1, [.ref b])), (b, .inr (3, [.ref v, .int 0, .int ml, .int (nI xs.length)])), (v, .inl (gB g, cp, .inl a))] H := hP
    have hD : va_D A [(s0, .inr (1, [.ref b])), (b, .inr (3, [.ref v, .int 0, .int ml, .int (nI xs.length)])), (v, .inl (gB g, cp, .inl a))] := hD
    refine lv_istore (lv' := [(5, .int (nI ((li_x i).getD ((li_x i).length - (d + 1)) 0))), (4, .int x), (0, .ref s0), (1, .ref (gK g i)), (2, .int (nI od)), (3, .int (nI nw))]) hx hb d_S_addWithChange_18 hl (by decide) rfl (fun ls hl => ?_)
    refine lv_aload_n hx hb d_S_addWithChange_20 rfl (lv_at hl 2 rfl) ?_
    refine va_get (D := gD g) (ci := 1) (v := .ref b) (C := R_S) (T := F_S) (N := 1) hx hb hF.2.2.2.2 in_S hF.2.2.2.1 hK hP 0 rfl rfl 0 (by decide) (hF.2.2.2.2 _ fl_S_12) (fun _ h9 => h9) rfl d_S_addWithChange_21 ?_
    refine lv_iload hx hb d_S_addWithChange_24 (lv_at hl 0 rfl) ?_
    refine lv_iload_n hx hb d_S_addWithChange_26 rfl (lv_at hl 4 rfl) ?_
    refine lv_icmp_ne (tgt := 34) hx hb d_S_addWithChange_27 (by decide) (fun c_4 => ?_) (fun c_4 => ?_)
    · skip
      refine lv_iload hx hb d_S_addWithChange_34 (lv_at hl 0 rfl) ?_
      have hga_5 := gc_le (xs.length + 1) cp (by omega)
      have hgb_5 := gs_le (xs.length + 1) cp
      have hgd_5 := sb_cap_gem (xs.length + 1) cp
      have hgc_5 := cap_le (xs.length + 1) cp (by omega) (by omega)
      refine go_r (wr := [(s0, .inr (1, [.ref b]))]) (run_V hF (c_SB_append_C g l _ b v cp ml a xs ht ((li_x i).getD ((li_x i).length - (d + 1)) 0) (li_ch hi _) (by omega)) k_SB_append_C j_S_88 se_SB_SB_append_C (va_recv hK hP (ci := 3) (q0 := 1) rfl rfl) (cw_down G hP hD hS hA [1, 2] rfl rfl) ⟨Nat.le_of_ble_eq_true rfl, Nat.le_of_ble_eq_true rfl⟩ rfl hl.1 (Nat.le_of_ble_eq_true rfl) d_S_addWithChange_36 ⟨(by first | exact Nat.le_of_ble_eq_true rfl | (dsimp only; omega) | omega), (by first | exact Nat.le_of_ble_eq_true rfl | (dsimp only; omega) | omega)⟩) hP hD hS hA [1, 2] [0] rfl rfl rfl (by decide) (fun r_6 w1 H locs hp hP hD hS => ?_)
      obtain ⟨er, v_7, f_7, rfl, ht_7⟩ := hp
      rw [er]
      have hge_8 := ht_7.2.2.1
      have hgf_8 : (xs ++ [((li_x i).getD ((li_x i).length - (d + 1)) 0)]).length = (xs.length + 1) := by rw [List.length_append]; rfl
      have hP : va_P (gD g) classes [(s0, .inr (1, [.ref b])), (b, .inr (3, [.ref v_7, .int 0, .int ml, .int (nI (xs ++ [((li_x i).getD ((li_x i).length - (d + 1)) 0)]).length)])), (v_7, .inl (gB g, (sb_cap (xs.length + 1) cp), .inl f_7))] H := hP
      have hD : va_D A [(s0, .inr (1, [.ref b])), (b, .inr (3, [.ref v_7, .int 0, .int ml, .int (nI (xs ++ [((li_x i).getD ((li_x i).length - (d + 1)) 0)]).length)])), (v_7, .inl (gB g, (sb_cap (xs.length + 1) cp), .inl f_7))] := hD
      refine lv_pop hx hb d_S_addWithChange_39 rfl ?_
      refine lv_iinc (v := (x + 1)) (lv' := [(4, .int (x + 1)), (5, .int (nI ((li_x i).getD ((li_x i).length - (d + 1)) 0))), (0, .ref s0), (1, .ref (gK g i)), (2, .int (nI od)), (3, .int (nI nw))]) hx hb d_S_addWithChange_40 hl (k := 1) rfl (by first | rfl | decide) (by decide) rfl (fun ls hl => ?_)
      refine lv_goto (tgt := 3) hx hb d_S_addWithChange_43 (by decide) ?_
      exact ih (xs ++ [((li_x i).getD ((li_x i).length - (d + 1)) 0)]) _ _ _ _ ht_7 _ _ _ (by omega) (by omega) (by omega) (by omega) (by rw [ex, nI_1]; congr 1; omega) (by rw [zg_S_addWithChange, if_neg c_4] at hp1; exact hp1) _ _ (hP.sub (ws' := [(s0, .inr (1, [.ref b])), (b, .inr (3, [.ref v_7, .int 0, .int ml, .int (nI (xs ++ [((li_x i).getD ((li_x i).length - (d + 1)) 0)]).length)])), (v_7, .inl (gB g, (sb_cap (xs.length + 1) cp), .inl f_7))]) [0, 1, 2] rfl) (hD.sub (ws' := [(s0, .inr (1, [.ref b])), (b, .inr (3, [.ref v_7, .int 0, .int ml, .int (nI (xs ++ [((li_x i).getD ((li_x i).length - (d + 1)) 0)]).length)])), (v_7, .inl (gB g, (sb_cap (xs.length + 1) cp), .inl f_7))]) [0, 1, 2] rfl rfl) hS _ (lv_sub hl [0, 2, 3, 4, 5] rfl)
    · skip
      refine lv_iload_n hx hb d_S_addWithChange_30 rfl (lv_at hl 5 rfl) ?_
      refine lv_goto (tgt := 36) hx hb d_S_addWithChange_31 (by decide) ?_
      have hga_9 := gc_le (xs.length + 1) cp (by omega)
      have hgb_9 := gs_le (xs.length + 1) cp
      have hgd_9 := sb_cap_gem (xs.length + 1) cp
      have hgc_9 := cap_le (xs.length + 1) cp (by omega) (by omega)
      refine go_r (wr := [(s0, .inr (1, [.ref b]))]) (run_V hF (c_SB_append_C g l _ b v cp ml a xs ht nw hnw (by omega)) k_SB_append_C j_S_88 se_SB_SB_append_C (va_recv hK hP (ci := 3) (q0 := 1) rfl rfl) (cw_down G hP hD hS hA [1, 2] rfl rfl) ⟨Nat.le_of_ble_eq_true rfl, Nat.le_of_ble_eq_true rfl⟩ rfl hl.1 (Nat.le_of_ble_eq_true rfl) d_S_addWithChange_36 ⟨(by first | exact Nat.le_of_ble_eq_true rfl | (dsimp only; omega) | omega), (by first | exact Nat.le_of_ble_eq_true rfl | (dsimp only; omega) | omega)⟩) hP hD hS hA [1, 2] [0] rfl rfl rfl (by decide) (fun r_10 w1 H locs hp hP hD hS => ?_)
      obtain ⟨er, v_11, f_11, rfl, ht_11⟩ := hp
      rw [er]
      have hge_12 := ht_11.2.2.1
      have hgf_12 : (xs ++ [nw]).length = (xs.length + 1) := by rw [List.length_append]; rfl
      have hP : va_P (gD g) classes [(s0, .inr (1, [.ref b])), (b, .inr (3, [.ref v_11, .int 0, .int ml, .int (nI (xs ++ [nw]).length)])), (v_11, .inl (gB g, (sb_cap (xs.length + 1) cp), .inl f_11))] H := hP
      have hD : va_D A [(s0, .inr (1, [.ref b])), (b, .inr (3, [.ref v_11, .int 0, .int ml, .int (nI (xs ++ [nw]).length)])), (v_11, .inl (gB g, (sb_cap (xs.length + 1) cp), .inl f_11))] := hD
      refine lv_pop hx hb d_S_addWithChange_39 rfl ?_
      refine lv_iinc (v := (x + 1)) (lv' := [(4, .int (x + 1)), (5, .int (nI ((li_x i).getD ((li_x i).length - (d + 1)) 0))), (0, .ref s0), (1, .ref (gK g i)), (2, .int (nI od)), (3, .int (nI nw))]) hx hb d_S_addWithChange_40 hl (k := 1) rfl (by first | rfl | decide) (by decide) rfl (fun ls hl => ?_)
      refine lv_goto (tgt := 3) hx hb d_S_addWithChange_43 (by decide) ?_
      exact ih (xs ++ [nw]) _ _ _ _ ht_11 _ _ _ (by omega) (by omega) (by omega) (by omega) (by rw [ex, nI_1]; congr 1; omega) (by rw [zg_S_addWithChange, if_pos c_4] at hp1; exact hp1) _ _ (hP.sub (ws' := [(s0, .inr (1, [.ref b])), (b, .inr (3, [.ref v_11, .int 0, .int ml, .int (nI (xs ++ [nw]).length)])), (v_11, .inl (gB g, (sb_cap (xs.length + 1) cp), .inl f_11))]) [0, 1, 2] rfl) (hD.sub (ws' := [(s0, .inr (1, [.ref b])), (b, .inr (3, [.ref v_11, .int 0, .int ml, .int (nI (xs ++ [nw]).length)])), (v_11, .inl (gB g, (sb_cap (xs.length + 1) cp), .inl f_11))]) [0, 1, 2] rfl rfl) hS _ (lv_sub hl [0, 2, 3, 4, 5] rfl)
def z_S_addWithChange (xs : List Nat) (i od nw : Nat) : List Nat := zg_S_addWithChange i od nw (li_x i).length xs
theorem zg_awc_len (i od nw : Nat) : ∀ (d : Nat) (xs : List Nat), (zg_S_addWithChange i od nw d xs).length = xs.length + d := by
  intro d
  induction d with
  | zero => intro xs; rfl
  | succ d ih =>
    intro xs
    rw [zg_S_addWithChange]
    split
    · rw [ih, List.length_append]; show xs.length + 1 + d = _; omega
    · rw [ih, List.length_append]; show xs.length + 1 + d = _; omega
set_option maxHeartbeats 4000000 in
set_option maxRecDepth 100000 in
theorem c_S_addWithChange (g : gT) (l : Launch) (sz : Nat) (s0 b v cp : Nat) (ml : Int32) (a : Nat → Int32) (xs : List Nat) (ht : tx xs cp a) (i od nw : Nat) (hlen : xs.length + 21 ≤ 70) (hi : i < 41) (hnw : nw < 128) : Mg g l y_S_addWithChange b_S_addWithChange 6 (none) 6 146 7 252 [.ref s0, .ref (gK g i), .int (nI od), .int (nI nw)] [(s0, .inr (1, [.ref b])), (b, .inr (3, [.ref v, .int 0, .int ml, .int (nI xs.length)])), (v, .inl (gB g, cp, .inl a))] sz (qV g (fun w1 => ∃ (v' cp' : Nat) (ml' : Int32) (f : Nat → Int32), w1 = [(s0, .inr (1, [.ref b])), (b, .inr (3, [.ref v', .int 0, .int ml', .int (nI (z_S_addWithChange xs i od nw).length)])), (v', .inl (gB g, cp', .inl f))] ∧ tx (z_S_addWithChange xs i od nw) cp' f ∧ (z_S_addWithChange xs i od nw).length ≤ xs.length + 21)) := by
  refine mg_of (by decide) (Nat.le_of_ble_eq_true rfl) ?_
  intro p e s m below meth c ls A hx hb hF hr hlk hnm hA G hP hD hS hl
  have ht2 := ht.2.1
  have h21 := li_40 i hi
  have hl : lv_has ls 6 [(0, .ref s0), (1, .ref (gK g i)), (2, .int (nI od)), (3, .int (nI nw))] := hl
  refine lv_iconst (v := 0) hx hb d_S_addWithChange_0 (by decide) ?_
  refine lv_istore (lv' := [(4, .int 0), (0, .ref s0), (1, .ref (gK g i)), (2, .int (nI od)), (3, .int (nI nw))]) hx hb d_S_addWithChange_1 hl (by decide) rfl (fun ls hl => ?_)
  exact lp_S_addWithChange s0 b i hi od nw hnw hx hb hF hA G (z_S_addWithChange xs i od nw) (fun v2 cp2 ml2 a2 ht2 cells slots h1 h2 H locs ls hP hD hS => ret_v hx hb hr hlk hP hD hS ⟨_, _, _, _, rfl, ht2, by rw [z_S_addWithChange, zg_awc_len]; omega⟩ (by have := ht2.2.2.1; omega) (by have := ht2.2.2.1; omega) d_S_addWithChange_46) (li_x i).length xs v cp ml a ht 0 0 0 (by omega) (by omega) (by omega) (Nat.le_refl _) (by rw [Nat.sub_self]; rfl) rfl _ _ hP hD hS ls hl
