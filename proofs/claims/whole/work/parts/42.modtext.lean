def f_M_own (t : Int32) : Int64 := (if t = 0 then 27707072068280686 else (if t = 1 then 1652126821 else (if t = 2 then 1667785074 else (if t = 3 then 495673373300 else (if t = 4 then 6909556 else (if t = 5 then 1819242087 else (if t = 6 then 439905902964 else (if t = 7 then 110429873532005 else (if t = 8 then 1987012964 else (if t = 9 then 87284110418804 else (if t = 10 then 5941776703744535653 else (if t = 11 then 0 else (if t = 12 then 1298231915 else (if t = 13 then 358233501797 else (if t = 14 then 74120169745509 else (if t = 15 then 91746765730405 else (if t = 16 then 289632186226 else (if t = 17 then 49 else (if t = 18 then 315385341298 else (if t = 19 then 1147495792 else (if t = 20 then 1315927141 else (if t = 21 then 4353912 else (if t = 22 then 1415670892 else (if t = 23 then 328286298476 else (if t = 24 then 49 else 0)))))))))))))))))))))))))
set_option maxRecDepth 100000 in
theorem k_M_own : ck y_M_own b_M_own 1 (some .long) 1 (.static y_M_own) := ⟨tk_of (List.mem_of_getElem? (i := 748) rfl) rfl, tk_of (List.mem_of_getElem? (i := 747) (by decide +kernel)) rfl, tk_of (List.mem_of_getElem? (i := 43) (by decide +kernel)) rfl, by decide +kernel⟩
theorem cl_M_30 : Cond.constantLong R_M 30 27707072068280686 ∈ tk := tk_of (List.mem_of_getElem? (i := 749) (by decide +kernel)) rfl
theorem cl_M_32 : Cond.constantLong R_M 32 1652126821 ∈ tk := tk_of (List.mem_of_getElem? (i := 750) (by decide +kernel)) rfl
theorem cl_M_34 : Cond.constantLong R_M 34 1667785074 ∈ tk := tk_of (List.mem_of_getElem? (i := 751) (by decide +kernel)) rfl
theorem cl_M_36 : Cond.constantLong R_M 36 495673373300 ∈ tk := tk_of (List.mem_of_getElem? (i := 752) (by decide +kernel)) rfl
theorem cl_M_38 : Cond.constantLong R_M 38 6909556 ∈ tk := tk_of (List.mem_of_getElem? (i := 753) (by decide +kernel)) rfl
theorem cl_M_40 : Cond.constantLong R_M 40 1819242087 ∈ tk := tk_of (List.mem_of_getElem? (i := 754) (by decide +kernel)) rfl
theorem cl_M_42 : Cond.constantLong R_M 42 439905902964 ∈ tk := tk_of (List.mem_of_getElem? (i := 755) (by decide +kernel)) rfl
theorem cl_M_44 : Cond.constantLong R_M 44 110429873532005 ∈ tk := tk_of (List.mem_of_getElem? (i := 756) (by decide +kernel)) rfl
theorem cl_M_46 : Cond.constantLong R_M 46 1987012964 ∈ tk := tk_of (List.mem_of_getElem? (i := 757) (by decide +kernel)) rfl
theorem cl_M_48 : Cond.constantLong R_M 48 87284110418804 ∈ tk := tk_of (List.mem_of_getElem? (i := 758) (by decide +kernel)) rfl
theorem cl_M_50 : Cond.constantLong R_M 50 5941776703744535653 ∈ tk := tk_of (List.mem_of_getElem? (i := 759) (by decide +kernel)) rfl
theorem cl_M_52 : Cond.constantLong R_M 52 1298231915 ∈ tk := tk_of (List.mem_of_getElem? (i := 760) (by decide +kernel)) rfl
theorem cl_M_54 : Cond.constantLong R_M 54 358233501797 ∈ tk := tk_of (List.mem_of_getElem? (i := 761) (by decide +kernel)) rfl
theorem cl_M_56 : Cond.constantLong R_M 56 74120169745509 ∈ tk := tk_of (List.mem_of_getElem? (i := 762) (by decide +kernel)) rfl
theorem cl_M_58 : Cond.constantLong R_M 58 91746765730405 ∈ tk := tk_of (List.mem_of_getElem? (i := 763) (by decide +kernel)) rfl
theorem cl_M_60 : Cond.constantLong R_M 60 289632186226 ∈ tk := tk_of (List.mem_of_getElem? (i := 764) (by decide +kernel)) rfl
theorem cl_M_62 : Cond.constantLong R_M 62 49 ∈ tk := tk_of (List.mem_of_getElem? (i := 765) (by decide +kernel)) rfl
theorem cl_M_64 : Cond.constantLong R_M 64 315385341298 ∈ tk := tk_of (List.mem_of_getElem? (i := 766) (by decide +kernel)) rfl
theorem cl_M_66 : Cond.constantLong R_M 66 1147495792 ∈ tk := tk_of (List.mem_of_getElem? (i := 767) (by decide +kernel)) rfl
theorem cl_M_68 : Cond.constantLong R_M 68 1315927141 ∈ tk := tk_of (List.mem_of_getElem? (i := 768) (by decide +kernel)) rfl
theorem cl_M_70 : Cond.constantLong R_M 70 4353912 ∈ tk := tk_of (List.mem_of_getElem? (i := 769) (by decide +kernel)) rfl
theorem cl_M_72 : Cond.constantLong R_M 72 1415670892 ∈ tk := tk_of (List.mem_of_getElem? (i := 770) (by decide +kernel)) rfl
theorem cl_M_74 : Cond.constantLong R_M 74 328286298476 ∈ tk := tk_of (List.mem_of_getElem? (i := 771) (by decide +kernel)) rfl
set_option maxHeartbeats 4000000 in
set_option maxRecDepth 100000 in
theorem c_M_own (l : Launch) (t : Int32) : pmL l y_M_own b_M_own 1 0 0 [.int t] (fun r => r = f_M_own t) := by
  refine pl_of (by decide) (Nat.le_of_ble_eq_true rfl) ?_
  intro p e s m below meth c ls hx hb hF hr hlk hN hl
  have hl : lv_has ls 1 [(0, .int t)] := hl
  refine lv_iload_n hx hb d_M_own_0 rfl (lv_at hl 0 rfl) ?_
  by_cases c_1 : t = 0
  · refine lv_tableIn (tgt := 116) (off := 115) hx hb d_M_own_1 (by rw [c_1]; decide) (by rw [c_1]; decide) (by rw [c_1]; decide) (by decide) ?_
    refine lv_ldc2 (v := 27707072068280686) hx hb hF.2.2.2.1 (hF.2.2.2.2 _ cl_M_30) d_M_own_116 ?_
    exact pl_ret hx hb hr hlk (by rw [f_M_own, if_pos c_1]) d_M_own_119
  by_cases c_2 : t = 1
  · refine lv_tableIn (tgt := 120) (off := 119) hx hb d_M_own_1 (by rw [c_2]; decide) (by rw [c_2]; decide) (by rw [c_2]; decide) (by decide) ?_
    refine lv_ldc2 (v := 1652126821) hx hb hF.2.2.2.1 (hF.2.2.2.2 _ cl_M_32) d_M_own_120 ?_
    exact pl_ret hx hb hr hlk (by rw [f_M_own, if_neg c_1, if_pos c_2]) d_M_own_123
  by_cases c_3 : t = 2
  · refine lv_tableIn (tgt := 124) (off := 123) hx hb d_M_own_1 (by rw [c_3]; decide) (by rw [c_3]; decide) (by rw [c_3]; decide) (by decide) ?_
    refine lv_ldc2 (v := 1667785074) hx hb hF.2.2.2.1 (hF.2.2.2.2 _ cl_M_34) d_M_own_124 ?_
    exact pl_ret hx hb hr hlk (by rw [f_M_own, if_neg c_1, if_neg c_2, if_pos c_3]) d_M_own_127
  by_cases c_4 : t = 3
  · refine lv_tableIn (tgt := 128) (off := 127) hx hb d_M_own_1 (by rw [c_4]; decide) (by rw [c_4]; decide) (by rw [c_4]; decide) (by decide) ?_
    refine lv_ldc2 (v := 495673373300) hx hb hF.2.2.2.1 (hF.2.2.2.2 _ cl_M_36) d_M_own_128 ?_
    exact pl_ret hx hb hr hlk (by rw [f_M_own, if_neg c_1, if_neg c_2, if_neg c_3, if_pos c_4]) d_M_own_131
  by_cases c_5 : t = 4
  · refine lv_tableIn (tgt := 132) (off := 131) hx hb d_M_own_1 (by rw [c_5]; decide) (by rw [c_5]; decide) (by rw [c_5]; decide) (by decide) ?_
    refine lv_ldc2 (v := 6909556) hx hb hF.2.2.2.1 (hF.2.2.2.2 _ cl_M_38) d_M_own_132 ?_
    exact pl_ret hx hb hr hlk (by rw [f_M_own, if_neg c_1, if_neg c_2, if_neg c_3, if_neg c_4, if_pos c_5]) d_M_own_135
  by_cases c_6 : t = 5
  · refine lv_tableIn (tgt := 136) (off := 135) hx hb d_M_own_1 (by rw [c_6]; decide) (by rw [c_6]; decide) (by rw [c_6]; decide) (by decide) ?_
    refine lv_ldc2 (v := 1819242087) hx hb hF.2.2.2.1 (hF.2.2.2.2 _ cl_M_40) d_M_own_136 ?_
    exact pl_ret hx hb hr hlk (by rw [f_M_own, if_neg c_1, if_neg c_2, if_neg c_3, if_neg c_4, if_neg c_5, if_pos c_6]) d_M_own_139
  by_cases c_7 : t = 6
  · refine lv_tableIn (tgt := 140) (off := 139) hx hb d_M_own_1 (by rw [c_7]; decide) (by rw [c_7]; decide) (by rw [c_7]; decide) (by decide) ?_
    refine lv_ldc2 (v := 439905902964) hx hb hF.2.2.2.1 (hF.2.2.2.2 _ cl_M_42) d_M_own_140 ?_
    exact pl_ret hx hb hr hlk (by rw [f_M_own, if_neg c_1, if_neg c_2, if_neg c_3, if_neg c_4, if_neg c_5, if_neg c_6, if_pos c_7]) d_M_own_143
  by_cases c_8 : t = 7
  · refine lv_tableIn (tgt := 144) (off := 143) hx hb d_M_own_1 (by rw [c_8]; decide) (by rw [c_8]; decide) (by rw [c_8]; decide) (by decide) ?_
    refine lv_ldc2 (v := 110429873532005) hx hb hF.2.2.2.1 (hF.2.2.2.2 _ cl_M_44) d_M_own_144 ?_
    exact pl_ret hx hb hr hlk (by rw [f_M_own, if_neg c_1, if_neg c_2, if_neg c_3, if_neg c_4, if_neg c_5, if_neg c_6, if_neg c_7, if_pos c_8]) d_M_own_147
  by_cases c_9 : t = 8
  · refine lv_tableIn (tgt := 148) (off := 147) hx hb d_M_own_1 (by rw [c_9]; decide) (by rw [c_9]; decide) (by rw [c_9]; decide) (by decide) ?_
    refine lv_ldc2 (v := 1987012964) hx hb hF.2.2.2.1 (hF.2.2.2.2 _ cl_M_46) d_M_own_148 ?_
    exact pl_ret hx hb hr hlk (by rw [f_M_own, if_neg c_1, if_neg c_2, if_neg c_3, if_neg c_4, if_neg c_5, if_neg c_6, if_neg c_7, if_neg c_8, if_pos c_9]) d_M_own_151
  by_cases c_10 : t = 9
  · refine lv_tableIn (tgt := 152) (off := 151) hx hb d_M_own_1 (by rw [c_10]; decide) (by rw [c_10]; decide) (by rw [c_10]; decide) (by decide) ?_
    refine lv_ldc2 (v := 87284110418804) hx hb hF.2.2.2.1 (hF.2.2.2.2 _ cl_M_48) d_M_own_152 ?_
    exact pl_ret hx hb hr hlk (by rw [f_M_own, if_neg c_1, if_neg c_2, if_neg c_3, if_neg c_4, if_neg c_5, if_neg c_6, if_neg c_7, if_neg c_8, if_neg c_9, if_pos c_10]) d_M_own_155
  by_cases c_11 : t = 10
  · refine lv_tableIn (tgt := 156) (off := 155) hx hb d_M_own_1 (by rw [c_11]; decide) (by rw [c_11]; decide) (by rw [c_11]; decide) (by decide) ?_
    refine lv_ldc2 (v := 5941776703744535653) hx hb hF.2.2.2.1 (hF.2.2.2.2 _ cl_M_50) d_M_own_156 ?_
    exact pl_ret hx hb hr hlk (by rw [f_M_own, if_neg c_1, if_neg c_2, if_neg c_3, if_neg c_4, if_neg c_5, if_neg c_6, if_neg c_7, if_neg c_8, if_neg c_9, if_neg c_10, if_pos c_11]) d_M_own_159
  by_cases c_12 : t = 11
  · refine lv_tableIn (tgt := 208) (off := 207) hx hb d_M_own_1 (by rw [c_12]; decide) (by rw [c_12]; decide) (by rw [c_12]; decide) (by decide) ?_
    refine lv_lconst (v := 0) hx hb d_M_own_208 (by decide) ?_
    exact pl_ret hx hb hr hlk (by rw [f_M_own, if_neg c_1, if_neg c_2, if_neg c_3, if_neg c_4, if_neg c_5, if_neg c_6, if_neg c_7, if_neg c_8, if_neg c_9, if_neg c_10, if_neg c_11, if_pos c_12]) d_M_own_209
  by_cases c_13 : t = 12
  · refine lv_tableIn (tgt := 160) (off := 159) hx hb d_M_own_1 (by rw [c_13]; decide) (by rw [c_13]; decide) (by rw [c_13]; decide) (by decide) ?_
    refine lv_ldc2 (v := 1298231915) hx hb hF.2.2.2.1 (hF.2.2.2.2 _ cl_M_52) d_M_own_160 ?_
    exact pl_ret hx hb hr hlk (by rw [f_M_own, if_neg c_1, if_neg c_2, if_neg c_3, if_neg c_4, if_neg c_5, if_neg c_6, if_neg c_7, if_neg c_8, if_neg c_9, if_neg c_10, if_neg c_11, if_neg c_12, if_pos c_13]) d_M_own_163
  by_cases c_14 : t = 13
  · refine lv_tableIn (tgt := 164) (off := 163) hx hb d_M_own_1 (by rw [c_14]; decide) (by rw [c_14]; decide) (by rw [c_14]; decide) (by decide) ?_
    refine lv_ldc2 (v := 358233501797) hx hb hF.2.2.2.1 (hF.2.2.2.2 _ cl_M_54) d_M_own_164 ?_
    exact pl_ret hx hb hr hlk (by rw [f_M_own, if_neg c_1, if_neg c_2, if_neg c_3, if_neg c_4, if_neg c_5, if_neg c_6, if_neg c_7, if_neg c_8, if_neg c_9, if_neg c_10, if_neg c_11, if_neg c_12, if_neg c_13, if_pos c_14]) d_M_own_167
  by_cases c_15 : t = 14
  · refine lv_tableIn (tgt := 168) (off := 167) hx hb d_M_own_1 (by rw [c_15]; decide) (by rw [c_15]; decide) (by rw [c_15]; decide) (by decide) ?_
    refine lv_ldc2 (v := 74120169745509) hx hb hF.2.2.2.1 (hF.2.2.2.2 _ cl_M_56) d_M_own_168 ?_
    exact pl_ret hx hb hr hlk (by rw [f_M_own, if_neg c_1, if_neg c_2, if_neg c_3, if_neg c_4, if_neg c_5, if_neg c_6, if_neg c_7, if_neg c_8, if_neg c_9, if_neg c_10, if_neg c_11, if_neg c_12, if_neg c_13, if_neg c_14, if_pos c_15]) d_M_own_171
  by_cases c_16 : t = 15
  · refine lv_tableIn (tgt := 172) (off := 171) hx hb d_M_own_1 (by rw [c_16]; decide) (by rw [c_16]; decide) (by rw [c_16]; decide) (by decide) ?_
    refine lv_ldc2 (v := 91746765730405) hx hb hF.2.2.2.1 (hF.2.2.2.2 _ cl_M_58) d_M_own_172 ?_
    exact pl_ret hx hb hr hlk (by rw [f_M_own, if_neg c_1, if_neg c_2, if_neg c_3, if_neg c_4, if_neg c_5, if_neg c_6, if_neg c_7, if_neg c_8, if_neg c_9, if_neg c_10, if_neg c_11, if_neg c_12, if_neg c_13, if_neg c_14, if_neg c_15, if_pos c_16]) d_M_own_175
  by_cases c_17 : t = 16
  · refine lv_tableIn (tgt := 176) (off := 175) hx hb d_M_own_1 (by rw [c_17]; decide) (by rw [c_17]; decide) (by rw [c_17]; decide) (by decide) ?_
    refine lv_ldc2 (v := 289632186226) hx hb hF.2.2.2.1 (hF.2.2.2.2 _ cl_M_60) d_M_own_176 ?_
    exact pl_ret hx hb hr hlk (by rw [f_M_own, if_neg c_1, if_neg c_2, if_neg c_3, if_neg c_4, if_neg c_5, if_neg c_6, if_neg c_7, if_neg c_8, if_neg c_9, if_neg c_10, if_neg c_11, if_neg c_12, if_neg c_13, if_neg c_14, if_neg c_15, if_neg c_16, if_pos c_17]) d_M_own_179
  by_cases c_18 : t = 17
  · refine lv_tableIn (tgt := 180) (off := 179) hx hb d_M_own_1 (by rw [c_18]; decide) (by rw [c_18]; decide) (by rw [c_18]; decide) (by decide) ?_
    refine lv_ldc2 (v := 49) hx hb hF.2.2.2.1 (hF.2.2.2.2 _ cl_M_62) d_M_own_180 ?_
    exact pl_ret hx hb hr hlk (by rw [f_M_own, if_neg c_1, if_neg c_2, if_neg c_3, if_neg c_4, if_neg c_5, if_neg c_6, if_neg c_7, if_neg c_8, if_neg c_9, if_neg c_10, if_neg c_11, if_neg c_12, if_neg c_13, if_neg c_14, if_neg c_15, if_neg c_16, if_neg c_17, if_pos c_18]) d_M_own_183
  by_cases c_19 : t = 18
  · refine lv_tableIn (tgt := 184) (off := 183) hx hb d_M_own_1 (by rw [c_19]; decide) (by rw [c_19]; decide) (by rw [c_19]; decide) (by decide) ?_
    refine lv_ldc2 (v := 315385341298) hx hb hF.2.2.2.1 (hF.2.2.2.2 _ cl_M_64) d_M_own_184 ?_
    exact pl_ret hx hb hr hlk (by rw [f_M_own, if_neg c_1, if_neg c_2, if_neg c_3, if_neg c_4, if_neg c_5, if_neg c_6, if_neg c_7, if_neg c_8, if_neg c_9, if_neg c_10, if_neg c_11, if_neg c_12, if_neg c_13, if_neg c_14, if_neg c_15, if_neg c_16, if_neg c_17, if_neg c_18, if_pos c_19]) d_M_own_187
  by_cases c_20 : t = 19
  · refine lv_tableIn (tgt := 188) (off := 187) hx hb d_M_own_1 (by rw [c_20]; decide) (by rw [c_20]; decide) (by rw [c_20]; decide) (by decide) ?_
    refine lv_ldc2 (v := 1147495792) hx hb hF.2.2.2.1 (hF.2.2.2.2 _ cl_M_66) d_M_own_188 ?_
    exact pl_ret hx hb hr hlk (by rw [f_M_own, if_neg c_1, if_neg c_2, if_neg c_3, if_neg c_4, if_neg c_5, if_neg c_6, if_neg c_7, if_neg c_8, if_neg c_9, if_neg c_10, if_neg c_11, if_neg c_12, if_neg c_13, if_neg c_14, if_neg c_15, if_neg c_16, if_neg c_17, if_neg c_18, if_neg c_19, if_pos c_20]) d_M_own_191
  by_cases c_21 : t = 20
  · refine lv_tableIn (tgt := 192) (off := 191) hx hb d_M_own_1 (by rw [c_21]; decide) (by rw [c_21]; decide) (by rw [c_21]; decide) (by decide) ?_
    refine lv_ldc2 (v := 1315927141) hx hb hF.2.2.2.1 (hF.2.2.2.2 _ cl_M_68) d_M_own_192 ?_
    exact pl_ret hx hb hr hlk (by rw [f_M_own, if_neg c_1, if_neg c_2, if_neg c_3, if_neg c_4, if_neg c_5, if_neg c_6, if_neg c_7, if_neg c_8, if_neg c_9, if_neg c_10, if_neg c_11, if_neg c_12, if_neg c_13, if_neg c_14, if_neg c_15, if_neg c_16, if_neg c_17, if_neg c_18, if_neg c_19, if_neg c_20, if_pos c_21]) d_M_own_195
  by_cases c_22 : t = 21
  · refine lv_tableIn (tgt := 196) (off := 195) hx hb d_M_own_1 (by rw [c_22]; decide) (by rw [c_22]; decide) (by rw [c_22]; decide) (by decide) ?_
    refine lv_ldc2 (v := 4353912) hx hb hF.2.2.2.1 (hF.2.2.2.2 _ cl_M_70) d_M_own_196 ?_
    exact pl_ret hx hb hr hlk (by rw [f_M_own, if_neg c_1, if_neg c_2, if_neg c_3, if_neg c_4, if_neg c_5, if_neg c_6, if_neg c_7, if_neg c_8, if_neg c_9, if_neg c_10, if_neg c_11, if_neg c_12, if_neg c_13, if_neg c_14, if_neg c_15, if_neg c_16, if_neg c_17, if_neg c_18, if_neg c_19, if_neg c_20, if_neg c_21, if_pos c_22]) d_M_own_199
  by_cases c_23 : t = 22
  · refine lv_tableIn (tgt := 200) (off := 199) hx hb d_M_own_1 (by rw [c_23]; decide) (by rw [c_23]; decide) (by rw [c_23]; decide) (by decide) ?_
    refine lv_ldc2 (v := 1415670892) hx hb hF.2.2.2.1 (hF.2.2.2.2 _ cl_M_72) d_M_own_200 ?_
    exact pl_ret hx hb hr hlk (by rw [f_M_own, if_neg c_1, if_neg c_2, if_neg c_3, if_neg c_4, if_neg c_5, if_neg c_6, if_neg c_7, if_neg c_8, if_neg c_9, if_neg c_10, if_neg c_11, if_neg c_12, if_neg c_13, if_neg c_14, if_neg c_15, if_neg c_16, if_neg c_17, if_neg c_18, if_neg c_19, if_neg c_20, if_neg c_21, if_neg c_22, if_pos c_23]) d_M_own_203
  by_cases c_24 : t = 23
  · refine lv_tableIn (tgt := 204) (off := 203) hx hb d_M_own_1 (by rw [c_24]; decide) (by rw [c_24]; decide) (by rw [c_24]; decide) (by decide) ?_
    refine lv_ldc2 (v := 328286298476) hx hb hF.2.2.2.1 (hF.2.2.2.2 _ cl_M_74) d_M_own_204 ?_
    exact pl_ret hx hb hr hlk (by rw [f_M_own, if_neg c_1, if_neg c_2, if_neg c_3, if_neg c_4, if_neg c_5, if_neg c_6, if_neg c_7, if_neg c_8, if_neg c_9, if_neg c_10, if_neg c_11, if_neg c_12, if_neg c_13, if_neg c_14, if_neg c_15, if_neg c_16, if_neg c_17, if_neg c_18, if_neg c_19, if_neg c_20, if_neg c_21, if_neg c_22, if_neg c_23, if_pos c_24]) d_M_own_207
  by_cases c_25 : t = 24
  · refine lv_tableIn (tgt := 180) (off := 179) hx hb d_M_own_1 (by rw [c_25]; decide) (by rw [c_25]; decide) (by rw [c_25]; decide) (by decide) ?_
    refine lv_ldc2 (v := 49) hx hb hF.2.2.2.1 (hF.2.2.2.2 _ cl_M_62) d_M_own_180 ?_
    exact pl_ret hx hb hr hlk (by rw [f_M_own, if_neg c_1, if_neg c_2, if_neg c_3, if_neg c_4, if_neg c_5, if_neg c_6, if_neg c_7, if_neg c_8, if_neg c_9, if_neg c_10, if_neg c_11, if_neg c_12, if_neg c_13, if_neg c_14, if_neg c_15, if_neg c_16, if_neg c_17, if_neg c_18, if_neg c_19, if_neg c_20, if_neg c_21, if_neg c_22, if_neg c_23, if_neg c_24, if_pos c_25]) d_M_own_183
  refine lv_tableOut (tgt := 208) hx hb d_M_own_1 (by have := lv_neT (a := 0) c_1 (by decide); have := lv_neT (a := 1) c_2 (by decide); have := lv_neT (a := 2) c_3 (by decide); have := lv_neT (a := 3) c_4 (by decide); have := lv_neT (a := 4) c_5 (by decide); have := lv_neT (a := 5) c_6 (by decide); have := lv_neT (a := 6) c_7 (by decide); have := lv_neT (a := 7) c_8 (by decide); have := lv_neT (a := 8) c_9 (by decide); have := lv_neT (a := 9) c_10 (by decide); have := lv_neT (a := 10) c_11 (by decide); have := lv_neT (a := 11) c_12 (by decide); have := lv_neT (a := 12) c_13 (by decide); have := lv_neT (a := 13) c_14 (by decide); have := lv_neT (a := 14) c_15 (by decide); have := lv_neT (a := 15) c_16 (by decide); have := lv_neT (a := 16) c_17 (by decide); have := lv_neT (a := 17) c_18 (by decide); have := lv_neT (a := 18) c_19 (by decide); have := lv_neT (a := 19) c_20 (by decide); have := lv_neT (a := 20) c_21 (by decide); have := lv_neT (a := 21) c_22 (by decide); have := lv_neT (a := 22) c_23 (by decide); have := lv_neT (a := 23) c_24 (by decide); have := lv_neT (a := 24) c_25 (by decide); omega) (by decide) ?_
  refine lv_lconst (v := 0) hx hb d_M_own_208 (by decide) ?_
  exact pl_ret hx hb hr hlk (by rw [f_M_own, if_neg c_1, if_neg c_2, if_neg c_3, if_neg c_4, if_neg c_5, if_neg c_6, if_neg c_7, if_neg c_8, if_neg c_9, if_neg c_10, if_neg c_11, if_neg c_12, if_neg c_13, if_neg c_14, if_neg c_15, if_neg c_16, if_neg c_17, if_neg c_18, if_neg c_19, if_neg c_20, if_neg c_21, if_neg c_22, if_neg c_23, if_neg c_24, if_neg c_25]) d_M_own_209
-- M_one
set_option maxRecDepth 100000 in
theorem k_M_one : ck y_M_one b_M_one 2 (none) 1 (.instanceMethod y_M_one) := ⟨tk_of (List.mem_of_getElem? (i := 719) rfl) rfl, tk_of (List.mem_of_getElem? (i := 718) (by decide +kernel)) rfl, tk_of (List.mem_of_getElem? (i := 43) (by decide +kernel)) rfl, by decide +kernel⟩
theorem fl_M_7 : Cond.fieldLink R_M 7 R_M "made" "[I" ∈ tk := tk_of (List.mem_of_getElem? (i := 670) (by decide +kernel)) rfl
theorem fl_M_76 : Cond.fieldLink R_M 76 R_M "size" "I" ∈ tk := tk_of (List.mem_of_getElem? (i := 671) (by decide +kernel)) rfl
set_option maxHeartbeats 4000000 in
set_option maxRecDepth 100000 in
theorem c_M_one (g : gT) (l : Launch) (sz : Nat) (h0 a1 a2 a3 a4 : Nat) (n2 n3 : Int32) (xs : List Int32) (md : Nat → Int32) (hm : mt xs md) (ch : Int32) (hlen : xs.length + 1 ≤ 200) : Mg g l y_M_one b_M_one 2 (none) 0 0 0 0 [.ref h0, .int ch] [(h0, .inr (4, [.ref a1, .int (nI xs.length), .ref a2, .int n2, .ref a3, .ref a4, .int n3])), (a1, .inl (gI g, 200, .inl md))] sz (qV g (fun w1 => ∃ md' : Nat → Int32, w1 = [(h0, .inr (4, [.ref a1, .int (nI (z_M_one xs ch).length), .ref a2, .int n2, .ref a3, .ref a4, .int n3])), (a1, .inl (gI g, 200, .inl md'))] ∧ mt (z_M_one xs ch) md' ∧ (z_M_one xs ch).length ≤ xs.length + 1 ∧ xs.length ≤ (z_M_one xs ch).length)) := by
  refine mg_of (by decide) (Nat.le_of_ble_eq_true rfl) ?_
  intro p e s m below meth c ls A hx hb hF hr hlk hnm hA G hP hD hS hl
  have hK := G.2.1
  have hN := G.1
  have hl : lv_has ls 2 [(0, .ref h0), (1, .int ch)] := hl
  refine lv_aload_n hx hb d_M_one_0 rfl (lv_at hl 0 rfl) ?_
  refine va_get (D := gD g) (ci := 4) (v := .ref a1) (C := R_M) (T := F_M) (N := 7) hx hb hF.2.2.2.2 in_M hF.2.2.2.1 hK hP 0 rfl rfl 0 (by decide) (hF.2.2.2.2 _ fl_M_7) (fun _ h9 => h9) rfl d_M_one_1 ?_
  refine lv_aload_n hx hb d_M_one_4 rfl (lv_at hl 0 rfl) ?_
  refine va_get (D := gD g) (ci := 4) (v := .int (nI xs.length)) (C := R_M) (T := F_M) (N := 7) hx hb hF.2.2.2.2 in_M hF.2.2.2.1 hK hP 0 rfl rfl 1 (by decide) (hF.2.2.2.2 _ fl_M_76) (fun _ h9 => h9) rfl d_M_one_5 ?_
  refine lv_iload_n hx hb d_M_one_8 rfl (lv_at hl 1 rfl) ?_
  refine va_iast hx hb hK hP hD hS 1 0 rfl rfl (vp_in_nI (n := xs.length) (N := 200) (by omega) (by decide)) d_M_one_9 (fun H locs hP hD hS => ?_)
  have hP : va_P (gD g) classes [(h0, .inr (4, [.ref a1, .int (nI xs.length), .ref a2, .int n2, .ref a3, .ref a4, .int n3])), (a1, .inl (gI g, 200, .inl (upd md ((nI xs.length) : Int32).toNatClampNeg ch)))] H := hP
  have hD : va_D A [(h0, .inr (4, [.ref a1, .int (nI xs.length), .ref a2, .int n2, .ref a3, .ref a4, .int n3])), (a1, .inl (gI g, 200, .inl (upd md ((nI xs.length) : Int32).toNatClampNeg ch)))] := hD
  refine lv_aload_n hx hb d_M_one_10 rfl (lv_at hl 0 rfl) ?_
  refine lv_dup hx hb d_M_one_11 rfl ?_
  refine va_get (D := gD g) (ci := 4) (v := .int (nI xs.length)) (C := R_M) (T := F_M) (N := 7) hx hb hF.2.2.2.2 in_M hF.2.2.2.1 hK hP 0 rfl rfl 1 (by decide) (hF.2.2.2.2 _ fl_M_76) (fun _ h9 => h9) rfl d_M_one_12 ?_
  refine lv_iconst (v := 1) hx hb d_M_one_15 (by decide) ?_
  refine lv_iadd hx hb d_M_one_16 ?_
  refine tp_i (show ((nI xs.length) + 1) = (nI (z_M_one xs ch).length) from by rw [z_one_len]; exact nI_1 _) ?_
  refine va_put (D := gD g) (ci := 4) (v := .int (nI (z_M_one xs ch).length)) (ty := .int) (C := R_M) (T := F_M) (N := 7) hx hb hF.2.2.2.2 in_M t_M t_M_ok n_M hF.2.2.2.1 hK hP hD hS 0 rfl rfl 1 (by decide) (hF.2.2.2.2 _ fl_M_76) (fun _ h9 => h9) rfl (by decide +kernel) rfl rfl (Nat.le_of_ble_eq_true rfl) d_M_one_17 (fun H locs hP hD hS => ?_)
  have hP : va_P (gD g) classes [(h0, .inr (4, [.ref a1, .int (nI (z_M_one xs ch).length), .ref a2, .int n2, .ref a3, .ref a4, .int n3])), (a1, .inl (gI g, 200, .inl (upd md ((nI xs.length) : Int32).toNatClampNeg ch)))] H := hP
  have hD : va_D A [(h0, .inr (4, [.ref a1, .int (nI (z_M_one xs ch).length), .ref a2, .int n2, .ref a3, .ref a4, .int n3])), (a1, .inl (gI g, 200, .inl (upd md ((nI xs.length) : Int32).toNatClampNeg ch)))] := hD
  exact ret_v hx hb hr hlk hP hD hS ⟨_, rfl, mt_one hm hlen, Nat.le_of_eq (z_one_len _ _), by rw [z_one_len]; omega⟩ (by first | exact Nat.le_of_ble_eq_true rfl | (dsimp only; omega) | omega) (by first | exact Nat.le_of_ble_eq_true rfl | (dsimp only; omega) | omega) d_M_one_20
def by8 (w : Int64) (k : Int32) : Int32 := ((w.toUInt64 >>> (k.toInt64.toUInt64 &&& Int64.toUInt64 63)).toInt64.toInt32 &&& 255)
/-- the bytes below place n, those that are 0 left out -/
def zg_M_add (w : Int64) : Nat → List Int32 → List Int32
  | 0, xs => xs
  | n + 1, xs => zg_M_add w n (if by8 w (nI (8 * n)) = 0 then xs else z_M_one xs (by8 w (nI (8 * n))))
def z_M_add (xs : List Int32) (w : Int64) : List Int32 := zg_M_add w 8 xs
theorem zg_M_add_len (w : Int64) : ∀ (n : Nat) (xs : List Int32), (zg_M_add w n xs).length ≤ xs.length + n := by
  intro n
  induction n with
  | zero => intro xs; exact Nat.le_refl _
  | succ n ih =>
    intro xs
    rw [zg_M_add]
    refine Nat.le_trans (ih _) ?_
    split
    · omega
    · rw [z_one_len]; omega
theorem zg_M_add_len2 (w : Int64) : ∀ (n : Nat) (xs : List Int32), xs.length ≤ (zg_M_add w n xs).length := by
  intro n
  induction n with
  | zero => intro xs; exact Nat.le_refl _
  | succ n ih =>
    intro xs
    rw [zg_M_add]
    refine Nat.le_trans ?_ (ih _)
    split
    · omega
    · rw [z_one_len]; omega
theorem m_a8 (x : Int32) : x = x + 8 + (-8) := by rw [Int32.add_assoc, show (8 : Int32) + (-8) = 0 by decide, Int32.add_zero]
theorem m_neg8 {x : Int32} (h : x + 8 = nI (8 * 0)) : x < 0 := by
  rw [m_a8 x, h]
  decide
theorem m_s8 (n : Nat) : nI (8 * n) + (-8) + 8 = nI (8 * n) := by rw [Int32.add_assoc, show (-8 : Int32) + 8 = 0 by decide, Int32.add_zero]
theorem m_pos8 {x : Int32} {n : Nat} (h : x + 8 = nI (8 * (n + 1))) : x = nI (8 * n) := by
  rw [m_a8 x, h, show 8 * (n + 1) = 8 * n + 8 by omega, ← nI_add, Int32.add_assoc, show nI 8 + (-8) = (0 : Int32) by decide, Int32.add_zero]
set_option maxRecDepth 100000 in
theorem k_M_add : ck y_M_add b_M_add 5 (none) 1 (.instanceMethod y_M_add) := ⟨tk_of (List.mem_of_getElem? (i := 738) rfl) rfl, tk_of (List.mem_of_getElem? (i := 737) (by decide +kernel)) rfl, tk_of (List.mem_of_getElem? (i := 43) (by decide +kernel)) rfl, by decide +kernel⟩
theorem j_M_79 : Cond.methodLink R_M 79 y_M_one ∈ tk := tk_of (List.mem_of_getElem? (i := 716) (by decide +kernel)) rfl
theorem se_M_M_one : Cond.selects R_M y_M_one y_M_one ∈ tk := tk_of (List.mem_of_getElem? (i := 22) (by decide +kernel)) rfl
set_option maxHeartbeats 4000000 in
set_option maxRecDepth 100000 in
theorem lp_M_add {p : Program} {l : Launch} {e : Env} {s : State} {m : MethodId} {args : Array Value} {below : List Frame} {meth : Method} {c : Code} {g : gT} {A : Nat → Prop} {Q : State → Prop} (h0 a1 a2 a3 a4 : Nat) (n2 n3 : Int32) (w : Int64) (hx : p.tables.exec = Jvm.exec) (hb : c.code = b_M_add) (hF : CallFix p m c b_M_add 5 s args tk R_M) (hA : ∀ q, s.heap.size ≤ q → A q) (G : Gx g A s s.heap) (E : List Int32)
    (hend : ∀ (md : Nat → Int32), mt E md → ∀ (H : Heap) (locs : List Loc) (ls : Array Slot), va_P (gD g) classes [(h0, .inr (4, [.ref a1, .int (nI E.length), .ref a2, .int n2, .ref a3, .ref a4, .int n3])), (a1, .inl (gI g, 200, .inl md))] H → va_D A [(h0, .inr (4, [.ref a1, .int (nI E.length), .ref a2, .int n2, .ref a3, .ref a4, .int n3])), (a1, .inl (gI g, 200, .inl md))] → va_S A s.heap H locs → W p l e ({ frames := 1, cells := 0, slots := 0, locals := 21 }) s m args below meth c H locs 0 0 Q (F0 m 34 ls [])) :
    ∀ (n : Nat) (xs : List Int32) (md : Nat → Int32) (hm : mt xs md) (x : Int32), xs.length + n ≤ 200 → x + 8 = nI (8 * n) → zg_M_add w n xs = E → ∀ (H : Heap) (locs : List Loc), va_P (gD g) classes [(h0, .inr (4, [.ref a1, .int (nI xs.length), .ref a2, .int n2, .ref a3, .ref a4, .int n3])), (a1, .inl (gI g, 200, .inl md))] H → va_D A [(h0, .inr (4, [.ref a1, .int (nI xs.length), .ref a2, .int n2, .ref a3, .ref a4, .int n3])), (a1, .inl (gI g, 200, .inl md))] → va_S A s.heap H locs → ∀ ls : Array Slot, lv_has ls 5 [(3, .int x), (0, .ref h0), (1, .long w)] → W p l e ({ frames := 1, cells := 0, slots := 0, locals := 21 }) s m args below meth c H locs 0 0 Q (F0 m 3 ls []) := by
  have hK := G.2.1
  have hN := G.1
  intro n
  induction n with
  | zero =>
    intro xs md hm x hlen ex hp1 H locs hP hD hS ls hl
    have hneg : x < 0 := m_neg8 ex
    refine lv_iload_n hx hb d_M_add_3 rfl (lv_at hl 0 rfl) ?_
    refine lv_if_lt (tgt := 34) hx hb d_M_add_4 (by decide) (fun _ => ?_) (fun q => absurd hneg q)
    have e1 : xs = E := hp1
    subst e1
    exact hend md hm H locs ls hP hD hS
  | succ n ih =>
    intro xs md hm x hlen ex hp1 H locs hP hD hS ls hl
    have ex : x = nI (8 * n) := m_pos8 ex
    have hpos : ¬ x < 0 := by rw [ex]; exact nI_pos (by omega)
    refine lv_iload_n hx hb d_M_add_3 rfl (lv_at hl 0 rfl) ?_
    refine lv_if_lt (tgt := 34) hx hb d_M_add_4 (by decide) (fun c_1 => absurd c_1 hpos) (fun c_1 => ?_)
    refine lv_lload_n hx hb d_M_add_7 rfl (lv_at hl 2 rfl) ?_
    refine lv_iload_n hx hb d_M_add_8 rfl (lv_at hl 0 rfl) ?_
    refine lv_lushr hx hb d_M_add_9 rfl ?_
    refine lv_l2i hx hb d_M_add_10 rfl ?_
    refine lv_sipush (v := 255) hx hb d_M_add_11 (by decide) ?_
    refine lv_iand hx hb d_M_add_14 ?_
    refine tp_i (y := by8 w x) rfl ?_
    refine lv_istore (lv' := [(4, .int (by8 w x)), (3, .int x), (0, .ref h0), (1, .long w)]) hx hb d_M_add_15 hl (by decide) rfl (fun ls hl => ?_)
    refine lv_iload hx hb d_M_add_17 (lv_at hl 0 rfl) ?_
    refine lv_if_eq (tgt := 28) hx hb d_M_add_19 (by decide) (fun c_2 => ?_) (fun c_2 => ?_)
    · skip
      refine lv_iinc (v := (x + (-8))) (lv' := [(3, .int (x + (-8))), (4, .int (by8 w x)), (0, .ref h0), (1, .long w)]) hx hb d_M_add_28 hl (k := 1) rfl (by first | rfl | decide) (by decide) rfl (fun ls hl => ?_)
      refine lv_goto (tgt := 3) hx hb d_M_add_31 (by decide) ?_
      exact ih xs md hm _ (by omega) (by rw [ex]; exact m_s8 n) (by rw [zg_M_add, ← ex, if_pos c_2] at hp1; exact hp1) _ _ (hP.sub (ws' := [(h0, .inr (4, [.ref a1, .int (nI xs.length), .ref a2, .int n2, .ref a3, .ref a4, .int n3])), (a1, .inl (gI g, 200, .inl md))]) [0, 1] rfl) (hD.sub (ws' := [(h0, .inr (4, [.ref a1, .int (nI xs.length), .ref a2, .int n2, .ref a3, .ref a4, .int n3])), (a1, .inl (gI g, 200, .inl md))]) [0, 1] rfl rfl) hS _ (lv_sub hl [0, 2, 3] rfl)
    · skip
      refine lv_aload_n hx hb d_M_add_22 rfl (lv_at hl 2 rfl) ?_
      refine lv_iload hx hb d_M_add_23 (lv_at hl 0 rfl) ?_
      refine go_v (wr := []) (run_V hF (c_M_one g l _ h0 a1 a2 a3 a4 n2 n3 xs md hm (by8 w x) (by omega)) k_M_one j_M_79 se_M_M_one (va_recv hK hP (ci := 4) (q0 := 0) rfl rfl) (cw_down G hP hD hS hA [0, 1] rfl rfl) ⟨Nat.le_of_ble_eq_true rfl, Nat.le_of_ble_eq_true rfl⟩ rfl hl.1 (Nat.le_of_ble_eq_true rfl) d_M_add_25 ⟨(by first | exact Nat.le_of_ble_eq_true rfl | (dsimp only; omega) | omega), (by first | exact Nat.le_of_ble_eq_true rfl | (dsimp only; omega) | omega)⟩) hP hD hS hA [0, 1] [] rfl rfl rfl (by decide) (fun w1 H locs hp hP hD hS => ?_)
      obtain ⟨md_4, rfl, hm_4, hn_4, hn_4b⟩ := hp
      have hP : va_P (gD g) classes [(h0, .inr (4, [.ref a1, .int (nI (z_M_one xs (by8 w x)).length), .ref a2, .int n2, .ref a3, .ref a4, .int n3])), (a1, .inl (gI g, 200, .inl md_4))] H := hP
      have hD : va_D A [(h0, .inr (4, [.ref a1, .int (nI (z_M_one xs (by8 w x)).length), .ref a2, .int n2, .ref a3, .ref a4, .int n3])), (a1, .inl (gI g, 200, .inl md_4))] := hD
      refine lv_iinc (v := (x + (-8))) (lv' := [(3, .int (x + (-8))), (4, .int (by8 w x)), (0, .ref h0), (1, .long w)]) hx hb d_M_add_28 hl (k := 1) rfl (by first | rfl | decide) (by decide) rfl (fun ls hl => ?_)
      refine lv_goto (tgt := 3) hx hb d_M_add_31 (by decide) ?_
      exact ih (z_M_one xs (by8 w x)) md_4 hm_4 _ (by omega) (by rw [ex]; exact m_s8 n) (by rw [zg_M_add, ← ex, if_neg c_2] at hp1; exact hp1) _ _ (hP.sub (ws' := [(h0, .inr (4, [.ref a1, .int (nI (z_M_one xs (by8 w x)).length), .ref a2, .int n2, .ref a3, .ref a4, .int n3])), (a1, .inl (gI g, 200, .inl md_4))]) [0, 1] rfl) (hD.sub (ws' := [(h0, .inr (4, [.ref a1, .int (nI (z_M_one xs (by8 w x)).length), .ref a2, .int n2, .ref a3, .ref a4, .int n3])), (a1, .inl (gI g, 200, .inl md_4))]) [0, 1] rfl rfl) hS _ (lv_sub hl [0, 2, 3] rfl)
set_option maxHeartbeats 4000000 in
set_option maxRecDepth 100000 in
theorem c_M_add (g : gT) (l : Launch) (sz : Nat) (h0 a1 a2 a3 a4 : Nat) (n2 n3 : Int32) (xs : List Int32) (md : Nat → Int32) (hm : mt xs md) (w : Int64) (hlen : xs.length + 8 ≤ 200) : Mg g l y_M_add b_M_add 5 (none) 1 21 0 0 [.ref h0, .long w] [(h0, .inr (4, [.ref a1, .int (nI xs.length), .ref a2, .int n2, .ref a3, .ref a4, .int n3])), (a1, .inl (gI g, 200, .inl md))] sz (qV g (fun w1 => ∃ md' : Nat → Int32, w1 = [(h0, .inr (4, [.ref a1, .int (nI (z_M_add xs w).length), .ref a2, .int n2, .ref a3, .ref a4, .int n3])), (a1, .inl (gI g, 200, .inl md'))] ∧ mt (z_M_add xs w) md' ∧ (z_M_add xs w).length ≤ xs.length + 8 ∧ xs.length ≤ (z_M_add xs w).length)) := by
  refine mg_of (by decide) (Nat.le_of_ble_eq_true rfl) ?_
  intro p e s m below meth c ls A hx hb hF hr hlk hnm hA G hP hD hS hl
  have hl : lv_has ls 5 [(0, .ref h0), (1, .long w)] := hl
  refine lv_bipush (v := 56) hx hb d_M_add_0 (by decide) ?_
  refine lv_istore_n (lv' := [(3, .int 56), (0, .ref h0), (1, .long w)]) hx hb d_M_add_2 rfl hl (by decide) rfl (fun ls hl => ?_)
  exact lp_M_add h0 a1 a2 a3 a4 n2 n3 w hx hb hF hA G (z_M_add xs w) (fun md2 hm2 H locs ls hP hD hS => ret_v hx hb hr hlk hP hD hS ⟨md2, rfl, hm2, zg_M_add_len w 8 xs, zg_M_add_len2 w 8 xs⟩ (Nat.le_refl _) (Nat.le_refl _) d_M_add_34) 8 xs md hm 56 hlen (by decide) rfl _ _ hP hD hS ls hl
def z_M_addOwn (xs : List Int32) (t : Int32) : List Int32 := (if t = 11 then (z_M_add (z_M_add xs 4858365246509707887) 25189) else (z_M_add xs (f_M_own t)))
set_option maxRecDepth 100000 in
theorem k_M_addOwn : ck y_M_addOwn b_M_addOwn 2 (none) 1 (.instanceMethod y_M_addOwn) := ⟨tk_of (List.mem_of_getElem? (i := 743) rfl) rfl, tk_of (List.mem_of_getElem? (i := 742) (by decide +kernel)) rfl, tk_of (List.mem_of_getElem? (i := 43) (by decide +kernel)) rfl, by decide +kernel⟩
theorem j_M_91 : Cond.methodLink R_M 91 y_M_own ∈ tk := tk_of (List.mem_of_getElem? (i := 746) (by decide +kernel)) rfl
theorem j_M_85 : Cond.methodLink R_M 85 y_M_add ∈ tk := tk_of (List.mem_of_getElem? (i := 735) (by decide +kernel)) rfl
theorem se_M_M_add : Cond.selects R_M y_M_add y_M_add ∈ tk := tk_of (List.mem_of_getElem? (i := 25) (by decide +kernel)) rfl
theorem cl_M_83 : Cond.constantLong R_M 83 4858365246509707887 ∈ tk := tk_of (List.mem_of_getElem? (i := 744) (by decide +kernel)) rfl
theorem cl_M_89 : Cond.constantLong R_M 89 25189 ∈ tk := tk_of (List.mem_of_getElem? (i := 745) (by decide +kernel)) rfl
set_option maxHeartbeats 4000000 in
set_option maxRecDepth 100000 in
theorem c_M_addOwn (g : gT) (l : Launch) (sz : Nat) (h0 a1 a2 a3 a4 : Nat) (n2 n3 : Int32) (xs : List Int32) (md : Nat → Int32) (hm : mt xs md) (t : Int32) (hlen : xs.length + 16 ≤ 200) : Mg g l y_M_addOwn b_M_addOwn 2 (none) 2 45 0 0 [.ref h0, .int t] [(h0, .inr (4, [.ref a1, .int (nI xs.length), .ref a2, .int n2, .ref a3, .ref a4, .int n3])), (a1, .inl (gI g, 200, .inl md))] sz (qV g (fun w1 => ∃ md' : Nat → Int32, w1 = [(h0, .inr (4, [.ref a1, .int (nI (z_M_addOwn xs t).length), .ref a2, .int n2, .ref a3, .ref a4, .int n3])), (a1, .inl (gI g, 200, .inl md'))] ∧ mt (z_M_addOwn xs t) md' ∧ (z_M_addOwn xs t).length ≤ xs.length + 16 ∧ xs.length ≤ (z_M_addOwn xs t).length)) := by
  refine mg_of (by decide) (Nat.le_of_ble_eq_true rfl) ?_
  intro p e s m below meth c ls A hx hb hF hr hlk hnm hA G hP hD hS hl
  have hK := G.2.1
  have hN := G.1
  have hl : lv_has ls 2 [(0, .ref h0), (1, .int t)] := hl
  refine lv_iload_n hx hb d_M_addOwn_0 rfl (lv_at hl 1 rfl) ?_
  refine lv_bipush (v := 11) hx hb d_M_addOwn_1 (by decide) ?_
  refine lv_icmp_ne (tgt := 23) hx hb d_M_addOwn_3 (by decide) (fun c_1 => ?_) (fun c_1 => ?_)
  · skip
    refine lv_aload_n hx hb d_M_addOwn_23 rfl (lv_at hl 0 rfl) ?_
    refine lv_iload_n hx hb d_M_addOwn_24 rfl (lv_at hl 1 rfl) ?_
    refine pl_callE hF hN (c_M_own l t) k_M_own j_M_91 ⟨Nat.le_of_ble_eq_true rfl, Nat.le_of_ble_eq_true rfl⟩ rfl hl.1 (Nat.le_of_ble_eq_true rfl) d_M_addOwn_25 ⟨(by first | exact Nat.le_of_ble_eq_true rfl | (dsimp only; omega) | omega), (by first | exact Nat.le_of_ble_eq_true rfl | (dsimp only; omega) | omega)⟩ ?_
    refine go_v (wr := []) (run_V hF (c_M_add g l _ h0 a1 a2 a3 a4 n2 n3 xs md hm (f_M_own t) (by omega)) k_M_add j_M_85 se_M_M_add (va_recv hK hP (ci := 4) (q0 := 0) rfl rfl) (cw_down G hP hD hS hA [0, 1] rfl rfl) ⟨Nat.le_of_ble_eq_true rfl, Nat.le_of_ble_eq_true rfl⟩ rfl hl.1 (Nat.le_of_ble_eq_true rfl) d_M_addOwn_28 ⟨(by first | exact Nat.le_of_ble_eq_true rfl | (dsimp only; omega) | omega), (by first | exact Nat.le_of_ble_eq_true rfl | (dsimp only; omega) | omega)⟩) hP hD hS hA [0, 1] [] rfl rfl rfl (by decide) (fun w1 H locs hp hP hD hS => ?_)
    obtain ⟨md_3, rfl, hm_3, hn_3, hn_3b⟩ := hp
    have hP : va_P (gD g) classes [(h0, .inr (4, [.ref a1, .int (nI (z_M_add xs (f_M_own t)).length), .ref a2, .int n2, .ref a3, .ref a4, .int n3])), (a1, .inl (gI g, 200, .inl md_3))] H := hP
    have hD : va_D A [(h0, .inr (4, [.ref a1, .int (nI (z_M_add xs (f_M_own t)).length), .ref a2, .int n2, .ref a3, .ref a4, .int n3])), (a1, .inl (gI g, 200, .inl md_3))] := hD
    have e : z_M_addOwn xs t = (z_M_add xs (f_M_own t)) := by rw [z_M_addOwn, if_neg c_1]
    exact ret_v hx hb hr hlk (hP.sub (ws' := [(h0, .inr (4, [.ref a1, .int (nI (z_M_add xs (f_M_own t)).length), .ref a2, .int n2, .ref a3, .ref a4, .int n3])), (a1, .inl (gI g, 200, .inl md_3))]) [0, 1] rfl) (hD.sub (ws' := [(h0, .inr (4, [.ref a1, .int (nI (z_M_add xs (f_M_own t)).length), .ref a2, .int n2, .ref a3, .ref a4, .int n3])), (a1, .inl (gI g, 200, .inl md_3))]) [0, 1] rfl rfl) hS ⟨md_3, by rw [e], by rw [e]; exact hm_3, by rw [e]; omega, by rw [e]; omega⟩ (by first | exact Nat.le_of_ble_eq_true rfl | (dsimp only; omega) | omega) (by first | exact Nat.le_of_ble_eq_true rfl | (dsimp only; omega) | omega) d_M_addOwn_31
  · skip
    refine lv_aload_n hx hb d_M_addOwn_6 rfl (lv_at hl 0 rfl) ?_
    refine lv_ldc2 (v := 4858365246509707887) hx hb hF.2.2.2.1 (hF.2.2.2.2 _ cl_M_83) d_M_addOwn_7 ?_
    refine go_v (wr := []) (run_V hF (c_M_add g l _ h0 a1 a2 a3 a4 n2 n3 xs md hm 4858365246509707887 (by omega)) k_M_add j_M_85 se_M_M_add (va_recv hK hP (ci := 4) (q0 := 0) rfl rfl) (cw_down G hP hD hS hA [0, 1] rfl rfl) ⟨Nat.le_of_ble_eq_true rfl, Nat.le_of_ble_eq_true rfl⟩ rfl hl.1 (Nat.le_of_ble_eq_true rfl) d_M_addOwn_10 ⟨(by first | exact Nat.le_of_ble_eq_true rfl | (dsimp only; omega) | omega), (by first | exact Nat.le_of_ble_eq_true rfl | (dsimp only; omega) | omega)⟩) hP hD hS hA [0, 1] [] rfl rfl rfl (by decide) (fun w1 H locs hp hP hD hS => ?_)
    obtain ⟨md_5, rfl, hm_5, hn_5, hn_5b⟩ := hp
    have hP : va_P (gD g) classes [(h0, .inr (4, [.ref a1, .int (nI (z_M_add xs 4858365246509707887).length), .ref a2, .int n2, .ref a3, .ref a4, .int n3])), (a1, .inl (gI g, 200, .inl md_5))] H := hP
    have hD : va_D A [(h0, .inr (4, [.ref a1, .int (nI (z_M_add xs 4858365246509707887).length), .ref a2, .int n2, .ref a3, .ref a4, .int n3])), (a1, .inl (gI g, 200, .inl md_5))] := hD
    refine lv_aload_n hx hb d_M_addOwn_13 rfl (lv_at hl 0 rfl) ?_
    refine lv_ldc2 (v := 25189) hx hb hF.2.2.2.1 (hF.2.2.2.2 _ cl_M_89) d_M_addOwn_14 ?_
    refine go_v (wr := []) (run_V hF (c_M_add g l _ h0 a1 a2 a3 a4 n2 n3 (z_M_add xs 4858365246509707887) md_5 hm_5 25189 (by omega)) k_M_add j_M_85 se_M_M_add (va_recv hK hP (ci := 4) (q0 := 0) rfl rfl) (cw_down G hP hD hS hA [0, 1] rfl rfl) ⟨Nat.le_of_ble_eq_true rfl, Nat.le_of_ble_eq_true rfl⟩ rfl hl.1 (Nat.le_of_ble_eq_true rfl) d_M_addOwn_17 ⟨(by first | exact Nat.le_of_ble_eq_true rfl | (dsimp only; omega) | omega), (by first | exact Nat.le_of_ble_eq_true rfl | (dsimp only; omega) | omega)⟩) hP hD hS hA [0, 1] [] rfl rfl rfl (by decide) (fun w1 H locs hp hP hD hS => ?_)
    obtain ⟨md_7, rfl, hm_7, hn_7, hn_7b⟩ := hp
    have hP : va_P (gD g) classes [(h0, .inr (4, [.ref a1, .int (nI (z_M_add (z_M_add xs 4858365246509707887) 25189).length), .ref a2, .int n2, .ref a3, .ref a4, .int n3])), (a1, .inl (gI g, 200, .inl md_7))] H := hP
    have hD : va_D A [(h0, .inr (4, [.ref a1, .int (nI (z_M_add (z_M_add xs 4858365246509707887) 25189).length), .ref a2, .int n2, .ref a3, .ref a4, .int n3])), (a1, .inl (gI g, 200, .inl md_7))] := hD
    refine lv_goto (tgt := 31) hx hb d_M_addOwn_20 (by decide) ?_
    have e : z_M_addOwn xs t = (z_M_add (z_M_add xs 4858365246509707887) 25189) := by rw [z_M_addOwn, if_pos c_1]
    exact ret_v hx hb hr hlk (hP.sub (ws' := [(h0, .inr (4, [.ref a1, .int (nI (z_M_add (z_M_add xs 4858365246509707887) 25189).length), .ref a2, .int n2, .ref a3, .ref a4, .int n3])), (a1, .inl (gI g, 200, .inl md_7))]) [0, 1] rfl) (hD.sub (ws' := [(h0, .inr (4, [.ref a1, .int (nI (z_M_add (z_M_add xs 4858365246509707887) 25189).length), .ref a2, .int n2, .ref a3, .ref a4, .int n3])), (a1, .inl (gI g, 200, .inl md_7))]) [0, 1] rfl rfl) hS ⟨md_7, by rw [e], by rw [e]; exact hm_7, by rw [e]; omega, by rw [e]; omega⟩ (by first | exact Nat.le_of_ble_eq_true rfl | (dsimp only; omega) | omega) (by first | exact Nat.le_of_ble_eq_true rfl | (dsimp only; omega) | omega) d_M_addOwn_31
def z_M_addName (xs : List Int32) (t : Int32) : List Int32 := (if t = 9 then (if t ≤ 11 then (if t = 17 then (if t = 23 then (z_M_addOwn (z_M_one (z_M_one (z_M_addOwn (z_M_add (z_M_add xs 456901681454) 465491093294) (t - 1)) 36) 49) t) else (z_M_addOwn (z_M_one (z_M_addOwn (z_M_add (z_M_add xs 456901681454) 465491093294) (t - 1)) 36) t)) else (if t = 19 then (if t = 23 then (z_M_addOwn (z_M_one (z_M_one (z_M_addOwn (z_M_add (z_M_add xs 456901681454) 465491093294) (t - 1)) 36) 49) t) else (z_M_addOwn (z_M_one (z_M_addOwn (z_M_add (z_M_add xs 456901681454) 465491093294) (t - 1)) 36) t)) else (if t = 23 then (z_M_addOwn (z_M_one (z_M_add (z_M_add xs 456901681454) 465491093294) 49) t) else (z_M_addOwn (z_M_add (z_M_add xs 456901681454) 465491093294) t)))) else (if t = 17 then (if t = 23 then (z_M_addOwn (z_M_one (z_M_one (z_M_addOwn (z_M_one (z_M_addOwn (z_M_add (z_M_add xs 456901681454) 465491093294) 11) 36) (t - 1)) 36) 49) t) else (z_M_addOwn (z_M_one (z_M_addOwn (z_M_one (z_M_addOwn (z_M_add (z_M_add xs 456901681454) 465491093294) 11) 36) (t - 1)) 36) t)) else (if t = 19 then (if t = 23 then (z_M_addOwn (z_M_one (z_M_one (z_M_addOwn (z_M_one (z_M_addOwn (z_M_add (z_M_add xs 456901681454) 465491093294) 11) 36) (t - 1)) 36) 49) t) else (z_M_addOwn (z_M_one (z_M_addOwn (z_M_one (z_M_addOwn (z_M_add (z_M_add xs 456901681454) 465491093294) 11) 36) (t - 1)) 36) t)) else (if t = 23 then (z_M_addOwn (z_M_one (z_M_one (z_M_addOwn (z_M_add (z_M_add xs 456901681454) 465491093294) 11) 36) 49) t) else (z_M_addOwn (z_M_one (z_M_addOwn (z_M_add (z_M_add xs 456901681454) 465491093294) 11) 36) t))))) else (if t = 10 then (if t ≤ 11 then (if t = 17 then (if t = 23 then (z_M_addOwn (z_M_one (z_M_one (z_M_addOwn (z_M_add (z_M_add xs 456901681454) 465491093294) (t - 1)) 36) 49) t) else (z_M_addOwn (z_M_one (z_M_addOwn (z_M_add (z_M_add xs 456901681454) 465491093294) (t - 1)) 36) t)) else (if t = 19 then (if t = 23 then (z_M_addOwn (z_M_one (z_M_one (z_M_addOwn (z_M_add (z_M_add xs 456901681454) 465491093294) (t - 1)) 36) 49) t) else (z_M_addOwn (z_M_one (z_M_addOwn (z_M_add (z_M_add xs 456901681454) 465491093294) (t - 1)) 36) t)) else (if t = 23 then (z_M_addOwn (z_M_one (z_M_add (z_M_add xs 456901681454) 465491093294) 49) t) else (z_M_addOwn (z_M_add (z_M_add xs 456901681454) 465491093294) t)))) else (if t = 17 then (if t = 23 then (z_M_addOwn (z_M_one (z_M_one (z_M_addOwn (z_M_one (z_M_addOwn (z_M_add (z_M_add xs 456901681454) 465491093294) 11) 36) (t - 1)) 36) 49) t) else (z_M_addOwn (z_M_one (z_M_addOwn (z_M_one (z_M_addOwn (z_M_add (z_M_add xs 456901681454) 465491093294) 11) 36) (t - 1)) 36) t)) else (if t = 19 then (if t = 23 then (z_M_addOwn (z_M_one (z_M_one (z_M_addOwn (z_M_one (z_M_addOwn (z_M_add (z_M_add xs 456901681454) 465491093294) 11) 36) (t - 1)) 36) 49) t) else (z_M_addOwn (z_M_one (z_M_addOwn (z_M_one (z_M_addOwn (z_M_add (z_M_add xs 456901681454) 465491093294) 11) 36) (t - 1)) 36) t)) else (if t = 23 then (z_M_addOwn (z_M_one (z_M_one (z_M_addOwn (z_M_add (z_M_add xs 456901681454) 465491093294) 11) 36) 49) t) else (z_M_addOwn (z_M_one (z_M_addOwn (z_M_add (z_M_add xs 456901681454) 465491093294) 11) 36) t))))) else (if t ≤ 11 then (if t = 17 then (if t = 23 then (z_M_addOwn (z_M_one (z_M_one (z_M_addOwn xs (t - 1)) 36) 49) t) else (z_M_addOwn (z_M_one (z_M_addOwn xs (t - 1)) 36) t)) else (if t = 19 then (if t = 23 then (z_M_addOwn (z_M_one (z_M_one (z_M_addOwn xs (t - 1)) 36) 49) t) else (z_M_addOwn (z_M_one (z_M_addOwn xs (t - 1)) 36) t)) else (if t = 23 then (z_M_addOwn (z_M_one xs 49) t) else (z_M_addOwn xs t)))) else (if t = 17 then (if t = 23 then (z_M_addOwn (z_M_one (z_M_one (z_M_addOwn (z_M_one (z_M_addOwn xs 11) 36) (t - 1)) 36) 49) t) else (z_M_addOwn (z_M_one (z_M_addOwn (z_M_one (z_M_addOwn xs 11) 36) (t - 1)) 36) t)) else (if t = 19 then (if t = 23 then (z_M_addOwn (z_M_one (z_M_one (z_M_addOwn (z_M_one (z_M_addOwn xs 11) 36) (t - 1)) 36) 49) t) else (z_M_addOwn (z_M_one (z_M_addOwn (z_M_one (z_M_addOwn xs 11) 36) (t - 1)) 36) t)) else (if t = 23 then (z_M_addOwn (z_M_one (z_M_one (z_M_addOwn xs 11) 36) 49) t) else (z_M_addOwn (z_M_one (z_M_addOwn xs 11) 36) t)))))))
set_option maxRecDepth 100000 in
theorem k_M_addName : ck y_M_addName b_M_addName 2 (none) 1 (.instanceMethod y_M_addName) := ⟨tk_of (List.mem_of_getElem? (i := 733) rfl) rfl, tk_of (List.mem_of_getElem? (i := 732) (by decide +kernel)) rfl, tk_of (List.mem_of_getElem? (i := 43) (by decide +kernel)) rfl, by decide +kernel⟩
theorem cl_M_95 : Cond.constantLong R_M 95 456901681454 ∈ tk := tk_of (List.mem_of_getElem? (i := 734) (by decide +kernel)) rfl
theorem cl_M_97 : Cond.constantLong R_M 97 465491093294 ∈ tk := tk_of (List.mem_of_getElem? (i := 739) (by decide +kernel)) rfl
theorem j_M_99 : Cond.methodLink R_M 99 y_M_addOwn ∈ tk := tk_of (List.mem_of_getElem? (i := 740) (by decide +kernel)) rfl
theorem se_M_M_addOwn : Cond.selects R_M y_M_addOwn y_M_addOwn ∈ tk := tk_of (List.mem_of_getElem? (i := 26) (by decide +kernel)) rfl
set_option maxHeartbeats 4000000 in
set_option maxRecDepth 100000 in
theorem c_M_addName (g : gT) (l : Launch) (sz : Nat) (h0 a1 a2 a3 a4 : Nat) (n2 n3 : Int32) (xs : List Int32) (md : Nat → Int32) (hm : mt xs md) (t : Int32) (hlen : xs.length + 67 ≤ 200) : Mg g l y_M_addName b_M_addName 2 (none) 3 66 0 0 [.ref h0, .int t] [(h0, .inr (4, [.ref a1, .int (nI xs.length), .ref a2, .int n2, .ref a3, .ref a4, .int n3])), (a1, .inl (gI g, 200, .inl md))] sz (qV g (fun w1 => ∃ md' : Nat → Int32, w1 = [(h0, .inr (4, [.ref a1, .int (nI (z_M_addName xs t).length), .ref a2, .int n2, .ref a3, .ref a4, .int n3])), (a1, .inl (gI g, 200, .inl md'))] ∧ mt (z_M_addName xs t) md' ∧ (z_M_addName xs t).length ≤ xs.length + 67 ∧ xs.length ≤ (z_M_addName xs t).length)) := by
  refine mg_of (by decide) (Nat.le_of_ble_eq_true rfl) ?_
  intro p e s m below meth c ls A hx hb hF hr hlk hnm hA G hP hD hS hl
  have hK := G.2.1
  have hN := G.1
  have hl : lv_has ls 2 [(0, .ref h0), (1, .int t)] := hl
  refine lv_iload_n hx hb d_M_addName_0 rfl (lv_at hl 1 rfl) ?_
  refine lv_bipush (v := 9) hx hb d_M_addName_1 (by decide) ?_
  refine lv_icmp_eq (tgt := 12) hx hb d_M_addName_3 (by decide) (fun c_1 => ?_) (fun c_1 => ?_)
  · skip
    refine lv_aload_n hx hb d_M_addName_12 rfl (lv_at hl 0 rfl) ?_
    refine lv_ldc2 (v := 456901681454) hx hb hF.2.2.2.1 (hF.2.2.2.2 _ cl_M_95) d_M_addName_13 ?_
    refine go_v (wr := []) (run_V hF (c_M_add g l _ h0 a1 a2 a3 a4 n2 n3 xs md hm 456901681454 (by omega)) k_M_add j_M_85 se_M_M_add (va_recv hK hP (ci := 4) (q0 := 0) rfl rfl) (cw_down G hP hD hS hA [0, 1] rfl rfl) ⟨Nat.le_of_ble_eq_true rfl, Nat.le_of_ble_eq_true rfl⟩ rfl hl.1 (Nat.le_of_ble_eq_true rfl) d_M_addName_16 ⟨(by first | exact Nat.le_of_ble_eq_true rfl | (dsimp only; omega) | omega), (by first | exact Nat.le_of_ble_eq_true rfl | (dsimp only; omega) | omega)⟩) hP hD hS hA [0, 1] [] rfl rfl rfl (by decide) (fun w1 H locs hp hP hD hS => ?_)
    obtain ⟨md_3, rfl, hm_3, hn_3, hn_3b⟩ := hp
    have hP : va_P (gD g) classes [(h0, .inr (4, [.ref a1, .int (nI (z_M_add xs 456901681454).length), .ref a2, .int n2, .ref a3, .ref a4, .int n3])), (a1, .inl (gI g, 200, .inl md_3))] H := hP
    have hD : va_D A [(h0, .inr (4, [.ref a1, .int (nI (z_M_add xs 456901681454).length), .ref a2, .int n2, .ref a3, .ref a4, .int n3])), (a1, .inl (gI g, 200, .inl md_3))] := hD
    refine lv_aload_n hx hb d_M_addName_19 rfl (lv_at hl 0 rfl) ?_
    refine lv_ldc2 (v := 465491093294) hx hb hF.2.2.2.1 (hF.2.2.2.2 _ cl_M_97) d_M_addName_20 ?_
    refine go_v (wr := []) (run_V hF (c_M_add g l _ h0 a1 a2 a3 a4 n2 n3 (z_M_add xs 456901681454) md_3 hm_3 465491093294 (by omega)) k_M_add j_M_85 se_M_M_add (va_recv hK hP (ci := 4) (q0 := 0) rfl rfl) (cw_down G hP hD hS hA [0, 1] rfl rfl) ⟨Nat.le_of_ble_eq_true rfl, Nat.le_of_ble_eq_true rfl⟩ rfl hl.1 (Nat.le_of_ble_eq_true rfl) d_M_addName_23 ⟨(by first | exact Nat.le_of_ble_eq_true rfl | (dsimp only; omega) | omega), (by first | exact Nat.le_of_ble_eq_true rfl | (dsimp only; omega) | omega)⟩) hP hD hS hA [0, 1] [] rfl rfl rfl (by decide) (fun w1 H locs hp hP hD hS => ?_)
    obtain ⟨md_5, rfl, hm_5, hn_5, hn_5b⟩ := hp
    have hP : va_P (gD g) classes [(h0, .inr (4, [.ref a1, .int (nI (z_M_add (z_M_add xs 456901681454) 465491093294).length), .ref a2, .int n2, .ref a3, .ref a4, .int n3])), (a1, .inl (gI g, 200, .inl md_5))] H := hP
    have hD : va_D A [(h0, .inr (4, [.ref a1, .int (nI (z_M_add (z_M_add xs 456901681454) 465491093294).length), .ref a2, .int n2, .ref a3, .ref a4, .int n3])), (a1, .inl (gI g, 200, .inl md_5))] := hD
    refine lv_iload_n hx hb d_M_addName_26 rfl (lv_at hl 1 rfl) ?_
    refine lv_bipush (v := 11) hx hb d_M_addName_27 (by decide) ?_
    refine lv_icmp_le (tgt := 44) hx hb d_M_addName_29 (by decide) (fun c_6 => ?_) (fun c_6 => ?_)
    · skip
      refine lv_iload_n hx hb d_M_addName_44 rfl (lv_at hl 1 rfl) ?_
      refine lv_bipush (v := 17) hx hb d_M_addName_45 (by decide) ?_
      refine lv_icmp_eq (tgt := 56) hx hb d_M_addName_47 (by decide) (fun c_7 => ?_) (fun c_7 => ?_)
      · skip
        refine lv_aload_n hx hb d_M_addName_56 rfl (lv_at hl 0 rfl) ?_
        refine lv_iload_n hx hb d_M_addName_57 rfl (lv_at hl 1 rfl) ?_
        refine lv_iconst (v := 1) hx hb d_M_addName_58 (by decide) ?_
        refine lv_isub hx hb d_M_addName_59 ?_
        refine go_v (wr := []) (run_V hF (c_M_addOwn g l _ h0 a1 a2 a3 a4 n2 n3 (z_M_add (z_M_add xs 456901681454) 465491093294) md_5 hm_5 (t - 1) (by omega)) k_M_addOwn j_M_99 se_M_M_addOwn (va_recv hK hP (ci := 4) (q0 := 0) rfl rfl) (cw_down G hP hD hS hA [0, 1] rfl rfl) ⟨Nat.le_of_ble_eq_true rfl, Nat.le_of_ble_eq_true rfl⟩ rfl hl.1 (Nat.le_of_ble_eq_true rfl) d_M_addName_60 ⟨(by first | exact Nat.le_of_ble_eq_true rfl | (dsimp only; omega) | omega), (by first | exact Nat.le_of_ble_eq_true rfl | (dsimp only; omega) | omega)⟩) hP hD hS hA [0, 1] [] rfl rfl rfl (by decide) (fun w1 H locs hp hP hD hS => ?_)
        obtain ⟨md_9, rfl, hm_9, hn_9, hn_9b⟩ := hp
        have hP : va_P (gD g) classes [(h0, .inr (4, [.ref a1, .int (nI (z_M_addOwn (z_M_add (z_M_add xs 456901681454) 465491093294) (t - 1)).length), .ref a2, .int n2, .ref a3, .ref a4, .int n3])), (a1, .inl (gI g, 200, .inl md_9))] H := hP
        have hD : va_D A [(h0, .inr (4, [.ref a1, .int (nI (z_M_addOwn (z_M_add (z_M_add xs 456901681454) 465491093294) (t - 1)).length), .ref a2, .int n2, .ref a3, .ref a4, .int n3])), (a1, .inl (gI g, 200, .inl md_9))] := hD
        refine lv_aload_n hx hb d_M_addName_63 rfl (lv_at hl 0 rfl) ?_
        refine lv_bipush (v := 36) hx hb d_M_addName_64 (by decide) ?_
        refine go_v (wr := []) (run_V hF (c_M_one g l _ h0 a1 a2 a3 a4 n2 n3 (z_M_addOwn (z_M_add (z_M_add xs 456901681454) 465491093294) (t - 1)) md_9 hm_9 36 (by omega)) k_M_one j_M_79 se_M_M_one (va_recv hK hP (ci := 4) (q0 := 0) rfl rfl) (cw_down G hP hD hS hA [0, 1] rfl rfl) ⟨Nat.le_of_ble_eq_true rfl, Nat.le_of_ble_eq_true rfl⟩ rfl hl.1 (Nat.le_of_ble_eq_true rfl) d_M_addName_66 ⟨(by first | exact Nat.le_of_ble_eq_true rfl | (dsimp only; omega) | omega), (by first | exact Nat.le_of_ble_eq_true rfl | (dsimp only; omega) | omega)⟩) hP hD hS hA [0, 1] [] rfl rfl rfl (by decide) (fun w1 H locs hp hP hD hS => ?_)
        obtain ⟨md_11, rfl, hm_11, hn_11, hn_11b⟩ := hp
        have hP : va_P (gD g) classes [(h0, .inr (4, [.ref a1, .int (nI (z_M_one (z_M_addOwn (z_M_add (z_M_add xs 456901681454) 465491093294) (t - 1)) 36).length), .ref a2, .int n2, .ref a3, .ref a4, .int n3])), (a1, .inl (gI g, 200, .inl md_11))] H := hP
        have hD : va_D A [(h0, .inr (4, [.ref a1, .int (nI (z_M_one (z_M_addOwn (z_M_add (z_M_add xs 456901681454) 465491093294) (t - 1)) 36).length), .ref a2, .int n2, .ref a3, .ref a4, .int n3])), (a1, .inl (gI g, 200, .inl md_11))] := hD
        refine lv_iload_n hx hb d_M_addName_69 rfl (lv_at hl 1 rfl) ?_
        refine lv_bipush (v := 23) hx hb d_M_addName_70 (by decide) ?_
        refine lv_icmp_ne (tgt := 81) hx hb d_M_addName_72 (by decide) (fun c_12 => ?_) (fun c_12 => ?_)
        · skip
          refine lv_aload_n hx hb d_M_addName_81 rfl (lv_at hl 0 rfl) ?_
          refine lv_iload_n hx hb d_M_addName_82 rfl (lv_at hl 1 rfl) ?_
          refine go_v (wr := []) (run_V hF (c_M_addOwn g l _ h0 a1 a2 a3 a4 n2 n3 (z_M_one (z_M_addOwn (z_M_add (z_M_add xs 456901681454) 465491093294) (t - 1)) 36) md_11 hm_11 t (by omega)) k_M_addOwn j_M_99 se_M_M_addOwn (va_recv hK hP (ci := 4) (q0 := 0) rfl rfl) (cw_down G hP hD hS hA [0, 1] rfl rfl) ⟨Nat.le_of_ble_eq_true rfl, Nat.le_of_ble_eq_true rfl⟩ rfl hl.1 (Nat.le_of_ble_eq_true rfl) d_M_addName_83 ⟨(by first | exact Nat.le_of_ble_eq_true rfl | (dsimp only; omega) | omega), (by first | exact Nat.le_of_ble_eq_true rfl | (dsimp only; omega) | omega)⟩) hP hD hS hA [0, 1] [] rfl rfl rfl (by decide) (fun w1 H locs hp hP hD hS => ?_)
          obtain ⟨md_14, rfl, hm_14, hn_14, hn_14b⟩ := hp
          have hP : va_P (gD g) classes [(h0, .inr (4, [.ref a1, .int (nI (z_M_addOwn (z_M_one (z_M_addOwn (z_M_add (z_M_add xs 456901681454) 465491093294) (t - 1)) 36) t).length), .ref a2, .int n2, .ref a3, .ref a4, .int n3])), (a1, .inl (gI g, 200, .inl md_14))] H := hP
          have hD : va_D A [(h0, .inr (4, [.ref a1, .int (nI (z_M_addOwn (z_M_one (z_M_addOwn (z_M_add (z_M_add xs 456901681454) 465491093294) (t - 1)) 36) t).length), .ref a2, .int n2, .ref a3, .ref a4, .int n3])), (a1, .inl (gI g, 200, .inl md_14))] := hD
          have e : z_M_addName xs t = (z_M_addOwn (z_M_one (z_M_addOwn (z_M_add (z_M_add xs 456901681454) 465491093294) (t - 1)) 36) t) := by rw [z_M_addName, if_pos c_1, if_pos c_6, if_pos c_7, if_neg c_12]
          exact ret_v hx hb hr hlk (hP.sub (ws' := [(h0, .inr (4, [.ref a1, .int (nI (z_M_addOwn (z_M_one (z_M_addOwn (z_M_add (z_M_add xs 456901681454) 465491093294) (t - 1)) 36) t).length), .ref a2, .int n2, .ref a3, .ref a4, .int n3])), (a1, .inl (gI g, 200, .inl md_14))]) [0, 1] rfl) (hD.sub (ws' := [(h0, .inr (4, [.ref a1, .int (nI (z_M_addOwn (z_M_one (z_M_addOwn (z_M_add (z_M_add xs 456901681454) 465491093294) (t - 1)) 36) t).length), .ref a2, .int n2, .ref a3, .ref a4, .int n3])), (a1, .inl (gI g, 200, .inl md_14))]) [0, 1] rfl rfl) hS ⟨md_14, by rw [e], by rw [e]; exact hm_14, by rw [e]; omega, by rw [e]; omega⟩ (by first | exact Nat.le_of_ble_eq_true rfl | (dsimp only; omega) | omega) (by first | exact Nat.le_of_ble_eq_true rfl | (dsimp only; omega) | omega) d_M_addName_86
        · skip
          refine lv_aload_n hx hb d_M_addName_75 rfl (lv_at hl 0 rfl) ?_
          refine lv_bipush (v := 49) hx hb d_M_addName_76 (by decide) ?_
          refine go_v (wr := []) (run_V hF (c_M_one g l _ h0 a1 a2 a3 a4 n2 n3 (z_M_one (z_M_addOwn (z_M_add (z_M_add xs 456901681454) 465491093294) (t - 1)) 36) md_11 hm_11 49 (by omega)) k_M_one j_M_79 se_M_M_one (va_recv hK hP (ci := 4) (q0 := 0) rfl rfl) (cw_down G hP hD hS hA [0, 1] rfl rfl) ⟨Nat.le_of_ble_eq_true rfl, Nat.le_of_ble_eq_true rfl⟩ rfl hl.1 (Nat.le_of_ble_eq_true rfl) d_M_addName_78 ⟨(by first | exact Nat.le_of_ble_eq_true rfl | (dsimp only; omega) | omega), (by first | exact Nat.le_of_ble_eq_true rfl | (dsimp only; omega) | omega)⟩) hP hD hS hA [0, 1] [] rfl rfl rfl (by decide) (fun w1 H locs hp hP hD hS => ?_)
          obtain ⟨md_16, rfl, hm_16, hn_16, hn_16b⟩ := hp
          have hP : va_P (gD g) classes [(h0, .inr (4, [.ref a1, .int (nI (z_M_one (z_M_one (z_M_addOwn (z_M_add (z_M_add xs 456901681454) 465491093294) (t - 1)) 36) 49).length), .ref a2, .int n2, .ref a3, .ref a4, .int n3])), (a1, .inl (gI g, 200, .inl md_16))] H := hP
          have hD : va_D A [(h0, .inr (4, [.ref a1, .int (nI (z_M_one (z_M_one (z_M_addOwn (z_M_add (z_M_add xs 456901681454) 465491093294) (t - 1)) 36) 49).length), .ref a2, .int n2, .ref a3, .ref a4, .int n3])), (a1, .inl (gI g, 200, .inl md_16))] := hD
          refine lv_aload_n hx hb d_M_addName_81 rfl (lv_at hl 0 rfl) ?_
          refine lv_iload_n hx hb d_M_addName_82 rfl (lv_at hl 1 rfl) ?_
          refine go_v (wr := []) (run_V hF (c_M_addOwn g l _ h0 a1 a2 a3 a4 n2 n3 (z_M_one (z_M_one (z_M_addOwn (z_M_add (z_M_add xs 456901681454) 465491093294) (t - 1)) 36) 49) md_16 hm_16 t (by omega)) k_M_addOwn j_M_99 se_M_M_addOwn (va_recv hK hP (ci := 4) (q0 := 0) rfl rfl) (cw_down G hP hD hS hA [0, 1] rfl rfl) ⟨Nat.le_of_ble_eq_true rfl, Nat.le_of_ble_eq_true rfl⟩ rfl hl.1 (Nat.le_of_ble_eq_true rfl) d_M_addName_83 ⟨(by first | exact Nat.le_of_ble_eq_true rfl | (dsimp only; omega) | omega), (by first | exact Nat.le_of_ble_eq_true rfl | (dsimp only; omega) | omega)⟩) hP hD hS hA [0, 1] [] rfl rfl rfl (by decide) (fun w1 H locs hp hP hD hS => ?_)
          obtain ⟨md_18, rfl, hm_18, hn_18, hn_18b⟩ := hp
          have hP : va_P (gD g) classes [(h0, .inr (4, [.ref a1, .int (nI (z_M_addOwn (z_M_one (z_M_one (z_M_addOwn (z_M_add (z_M_add xs 456901681454) 465491093294) (t - 1)) 36) 49) t).length), .ref a2, .int n2, .ref a3, .ref a4, .int n3])), (a1, .inl (gI g, 200, .inl md_18))] H := hP
          have hD : va_D A [(h0, .inr (4, [.ref a1, .int (nI (z_M_addOwn (z_M_one (z_M_one (z_M_addOwn (z_M_add (z_M_add xs 456901681454) 465491093294) (t - 1)) 36) 49) t).length), .ref a2, .int n2, .ref a3, .ref a4, .int n3])), (a1, .inl (gI g, 200, .inl md_18))] := hD
          have e : z_M_addName xs t = (z_M_addOwn (z_M_one (z_M_one (z_M_addOwn (z_M_add (z_M_add xs 456901681454) 465491093294) (t - 1)) 36) 49) t) := by rw [z_M_addName, if_pos c_1, if_pos c_6, if_pos c_7, if_pos c_12]
          exact ret_v hx hb hr hlk (hP.sub (ws' := [(h0, .inr (4, [.ref a1, .int (nI (z_M_addOwn (z_M_one (z_M_one (z_M_addOwn (z_M_add (z_M_add xs 456901681454) 465491093294) (t - 1)) 36) 49) t).length), .ref a2, .int n2, .ref a3, .ref a4, .int n3])), (a1, .inl (gI g, 200, .inl md_18))]) [0, 1] rfl) (hD.sub (ws' := [(h0, .inr (4, [.ref a1, .int (nI (z_M_addOwn (z_M_one (z_M_one (z_M_addOwn (z_M_add (z_M_add xs 456901681454) 465491093294) (t - 1)) 36) 49) t).length), .ref a2, .int n2, .ref a3, .ref a4, .int n3])), (a1, .inl (gI g, 200, .inl md_18))]) [0, 1] rfl rfl) hS ⟨md_18, by rw [e], by rw [e]; exact hm_18, by rw [e]; omega, by rw [e]; omega⟩ (by first | exact Nat.le_of_ble_eq_true rfl | (dsimp only; omega) | omega) (by first | exact Nat.le_of_ble_eq_true rfl | (dsimp only; omega) | omega) d_M_addName_86
      · skip
        refine lv_iload_n hx hb d_M_addName_50 rfl (lv_at hl 1 rfl) ?_
        refine lv_bipush (v := 19) hx hb d_M_addName_51 (by decide) ?_
        refine lv_icmp_ne (tgt := 69) hx hb d_M_addName_53 (by decide) (fun c_19 => ?_) (fun c_19 => ?_)
        · skip
          refine lv_iload_n hx hb d_M_addName_69 rfl (lv_at hl 1 rfl) ?_
          refine lv_bipush (v := 23) hx hb d_M_addName_70 (by decide) ?_
          refine lv_icmp_ne (tgt := 81) hx hb d_M_addName_72 (by decide) (fun c_20 => ?_) (fun c_20 => ?_)
          · skip
            refine lv_aload_n hx hb d_M_addName_81 rfl (lv_at hl 0 rfl) ?_
            refine lv_iload_n hx hb d_M_addName_82 rfl (lv_at hl 1 rfl) ?_
            refine go_v (wr := []) (run_V hF (c_M_addOwn g l _ h0 a1 a2 a3 a4 n2 n3 (z_M_add (z_M_add xs 456901681454) 465491093294) md_5 hm_5 t (by omega)) k_M_addOwn j_M_99 se_M_M_addOwn (va_recv hK hP (ci := 4) (q0 := 0) rfl rfl) (cw_down G hP hD hS hA [0, 1] rfl rfl) ⟨Nat.le_of_ble_eq_true rfl, Nat.le_of_ble_eq_true rfl⟩ rfl hl.1 (Nat.le_of_ble_eq_true rfl) d_M_addName_83 ⟨(by first | exact Nat.le_of_ble_eq_true rfl | (dsimp only; omega) | omega), (by first | exact Nat.le_of_ble_eq_true rfl | (dsimp only; omega) | omega)⟩) hP hD hS hA [0, 1] [] rfl rfl rfl (by decide) (fun w1 H locs hp hP hD hS => ?_)
            obtain ⟨md_22, rfl, hm_22, hn_22, hn_22b⟩ := hp
            have hP : va_P (gD g) classes [(h0, .inr (4, [.ref a1, .int (nI (z_M_addOwn (z_M_add (z_M_add xs 456901681454) 465491093294) t).length), .ref a2, .int n2, .ref a3, .ref a4, .int n3])), (a1, .inl (gI g, 200, .inl md_22))] H := hP
            have hD : va_D A [(h0, .inr (4, [.ref a1, .int (nI (z_M_addOwn (z_M_add (z_M_add xs 456901681454) 465491093294) t).length), .ref a2, .int n2, .ref a3, .ref a4, .int n3])), (a1, .inl (gI g, 200, .inl md_22))] := hD
            have e : z_M_addName xs t = (z_M_addOwn (z_M_add (z_M_add xs 456901681454) 465491093294) t) := by rw [z_M_addName, if_pos c_1, if_pos c_6, if_neg c_7, if_neg c_19, if_neg c_20]
            exact ret_v hx hb hr hlk (hP.sub (ws' := [(h0, .inr (4, [.ref a1, .int (nI (z_M_addOwn (z_M_add (z_M_add xs 456901681454) 465491093294) t).length), .ref a2, .int n2, .ref a3, .ref a4, .int n3])), (a1, .inl (gI g, 200, .inl md_22))]) [0, 1] rfl) (hD.sub (ws' := [(h0, .inr (4, [.ref a1, .int (nI (z_M_addOwn (z_M_add (z_M_add xs 456901681454) 465491093294) t).length), .ref a2, .int n2, .ref a3, .ref a4, .int n3])), (a1, .inl (gI g, 200, .inl md_22))]) [0, 1] rfl rfl) hS ⟨md_22, by rw [e], by rw [e]; exact hm_22, by rw [e]; omega, by rw [e]; omega⟩ (by first | exact Nat.le_of_ble_eq_true rfl | (dsimp only; omega) | omega) (by first | exact Nat.le_of_ble_eq_true rfl | (dsimp only; omega) | omega) d_M_addName_86
          · skip
            refine lv_aload_n hx hb d_M_addName_75 rfl (lv_at hl 0 rfl) ?_
            refine lv_bipush (v := 49) hx hb d_M_addName_76 (by decide) ?_
            refine go_v (wr := []) (run_V hF (c_M_one g l _ h0 a1 a2 a3 a4 n2 n3 (z_M_add (z_M_add xs 456901681454) 465491093294) md_5 hm_5 49 (by omega)) k_M_one j_M_79 se_M_M_one (va_recv hK hP (ci := 4) (q0 := 0) rfl rfl) (cw_down G hP hD hS hA [0, 1] rfl rfl) ⟨Nat.le_of_ble_eq_true rfl, Nat.le_of_ble_eq_true rfl⟩ rfl hl.1 (Nat.le_of_ble_eq_true rfl) d_M_addName_78 ⟨(by first | exact Nat.le_of_ble_eq_true rfl | (dsimp only; omega) | omega), (by first | exact Nat.le_of_ble_eq_true rfl | (dsimp only; omega) | omega)⟩) hP hD hS hA [0, 1] [] rfl rfl rfl (by decide) (fun w1 H locs hp hP hD hS => ?_)
            obtain ⟨md_24, rfl, hm_24, hn_24, hn_24b⟩ := hp
            have hP : va_P (gD g) classes [(h0, .inr (4, [.ref a1, .int (nI (z_M_one (z_M_add (z_M_add xs 456901681454) 465491093294) 49).length), .ref a2, .int n2, .ref a3, .ref a4, .int n3])), (a1, .inl (gI g, 200, .inl md_24))] H := hP
            have hD : va_D A [(h0, .inr (4, [.ref a1, .int (nI (z_M_one (z_M_add (z_M_add xs 456901681454) 465491093294) 49).length), .ref a2, .int n2, .ref a3, .ref a4, .int n3])), (a1, .inl (gI g, 200, .inl md_24))] := hD
            refine lv_aload_n hx hb d_M_addName_81 rfl (lv_at hl 0 rfl) ?_
            refine lv_iload_n hx hb d_M_addName_82 rfl (lv_at hl 1 rfl) ?_
            refine go_v (wr := []) (run_V hF (c_M_addOwn g l _ h0 a1 a2 a3 a4 n2 n3 (z_M_one (z_M_add (z_M_add xs 456901681454) 465491093294) 49) md_24 hm_24 t (by omega)) k_M_addOwn j_M_99 se_M_M_addOwn (va_recv hK hP (ci := 4) (q0 := 0) rfl rfl) (cw_down G hP hD hS hA [0, 1] rfl rfl) ⟨Nat.le_of_ble_eq_true rfl, Nat.le_of_ble_eq_true rfl⟩ rfl hl.1 (Nat.le_of_ble_eq_true rfl) d_M_addName_83 ⟨(by first | exact Nat.le_of_ble_eq_true rfl | (dsimp only; omega) | omega), (by first | exact Nat.le_of_ble_eq_true rfl | (dsimp only; omega) | omega)⟩) hP hD hS hA [0, 1] [] rfl rfl rfl (by decide) (fun w1 H locs hp hP hD hS => ?_)
            obtain ⟨md_26, rfl, hm_26, hn_26, hn_26b⟩ := hp
            have hP : va_P (gD g) classes [(h0, .inr (4, [.ref a1, .int (nI (z_M_addOwn (z_M_one (z_M_add (z_M_add xs 456901681454) 465491093294) 49) t).length), .ref a2, .int n2, .ref a3, .ref a4, .int n3])), (a1, .inl (gI g, 200, .inl md_26))] H := hP
            have hD : va_D A [(h0, .inr (4, [.ref a1, .int (nI (z_M_addOwn (z_M_one (z_M_add (z_M_add xs 456901681454) 465491093294) 49) t).length), .ref a2, .int n2, .ref a3, .ref a4, .int n3])), (a1, .inl (gI g, 200, .inl md_26))] := hD
            have e : z_M_addName xs t = (z_M_addOwn (z_M_one (z_M_add (z_M_add xs 456901681454) 465491093294) 49) t) := by rw [z_M_addName, if_pos c_1, if_pos c_6, if_neg c_7, if_neg c_19, if_pos c_20]
            exact ret_v hx hb hr hlk (hP.sub (ws' := [(h0, .inr (4, [.ref a1, .int (nI (z_M_addOwn (z_M_one (z_M_add (z_M_add xs 456901681454) 465491093294) 49) t).length), .ref a2, .int n2, .ref a3, .ref a4, .int n3])), (a1, .inl (gI g, 200, .inl md_26))]) [0, 1] rfl) (hD.sub (ws' := [(h0, .inr (4, [.ref a1, .int (nI (z_M_addOwn (z_M_one (z_M_add (z_M_add xs 456901681454) 465491093294) 49) t).length), .ref a2, .int n2, .ref a3, .ref a4, .int n3])), (a1, .inl (gI g, 200, .inl md_26))]) [0, 1] rfl rfl) hS ⟨md_26, by rw [e], by rw [e]; exact hm_26, by rw [e]; omega, by rw [e]; omega⟩ (by first | exact Nat.le_of_ble_eq_true rfl | (dsimp only; omega) | omega) (by first | exact Nat.le_of_ble_eq_true rfl | (dsimp only; omega) | omega) d_M_addName_86
        · skip
          refine lv_aload_n hx hb d_M_addName_56 rfl (lv_at hl 0 rfl) ?_
          refine lv_iload_n hx hb d_M_addName_57 rfl (lv_at hl 1 rfl) ?_
          refine lv_iconst (v := 1) hx hb d_M_addName_58 (by decide) ?_
          refine lv_isub hx hb d_M_addName_59 ?_
          refine go_v (wr := []) (run_V hF (c_M_addOwn g l _ h0 a1 a2 a3 a4 n2 n3 (z_M_add (z_M_add xs 456901681454) 465491093294) md_5 hm_5 (t - 1) (by omega)) k_M_addOwn j_M_99 se_M_M_addOwn (va_recv hK hP (ci := 4) (q0 := 0) rfl rfl) (cw_down G hP hD hS hA [0, 1] rfl rfl) ⟨Nat.le_of_ble_eq_true rfl, Nat.le_of_ble_eq_true rfl⟩ rfl hl.1 (Nat.le_of_ble_eq_true rfl) d_M_addName_60 ⟨(by first | exact Nat.le_of_ble_eq_true rfl | (dsimp only; omega) | omega), (by first | exact Nat.le_of_ble_eq_true rfl | (dsimp only; omega) | omega)⟩) hP hD hS hA [0, 1] [] rfl rfl rfl (by decide) (fun w1 H locs hp hP hD hS => ?_)
          obtain ⟨md_28, rfl, hm_28, hn_28, hn_28b⟩ := hp
          have hP : va_P (gD g) classes [(h0, .inr (4, [.ref a1, .int (nI (z_M_addOwn (z_M_add (z_M_add xs 456901681454) 465491093294) (t - 1)).length), .ref a2, .int n2, .ref a3, .ref a4, .int n3])), (a1, .inl (gI g, 200, .inl md_28))] H := hP
          have hD : va_D A [(h0, .inr (4, [.ref a1, .int (nI (z_M_addOwn (z_M_add (z_M_add xs 456901681454) 465491093294) (t - 1)).length), .ref a2, .int n2, .ref a3, .ref a4, .int n3])), (a1, .inl (gI g, 200, .inl md_28))] := hD
          refine lv_aload_n hx hb d_M_addName_63 rfl (lv_at hl 0 rfl) ?_
          refine lv_bipush (v := 36) hx hb d_M_addName_64 (by decide) ?_
          refine go_v (wr := []) (run_V hF (c_M_one g l _ h0 a1 a2 a3 a4 n2 n3 (z_M_addOwn (z_M_add (z_M_add xs 456901681454) 465491093294) (t - 1)) md_28 hm_28 36 (by omega)) k_M_one j_M_79 se_M_M_one (va_recv hK hP (ci := 4) (q0 := 0) rfl rfl) (cw_down G hP hD hS hA [0, 1] rfl rfl) ⟨Nat.le_of_ble_eq_true rfl, Nat.le_of_ble_eq_true rfl⟩ rfl hl.1 (Nat.le_of_ble_eq_true rfl) d_M_addName_66 ⟨(by first | exact Nat.le_of_ble_eq_true rfl | (dsimp only; omega) | omega), (by first | exact Nat.le_of_ble_eq_true rfl | (dsimp only; omega) | omega)⟩) hP hD hS hA [0, 1] [] rfl rfl rfl (by decide) (fun w1 H locs hp hP hD hS => ?_)
          obtain ⟨md_30, rfl, hm_30, hn_30, hn_30b⟩ := hp
          have hP : va_P (gD g) classes [(h0, .inr (4, [.ref a1, .int (nI (z_M_one (z_M_addOwn (z_M_add (z_M_add xs 456901681454) 465491093294) (t - 1)) 36).length), .ref a2, .int n2, .ref a3, .ref a4, .int n3])), (a1, .inl (gI g, 200, .inl md_30))] H := hP
          have hD : va_D A [(h0, .inr (4, [.ref a1, .int (nI (z_M_one (z_M_addOwn (z_M_add (z_M_add xs 456901681454) 465491093294) (t - 1)) 36).length), .ref a2, .int n2, .ref a3, .ref a4, .int n3])), (a1, .inl (gI g, 200, .inl md_30))] := hD
          refine lv_iload_n hx hb d_M_addName_69 rfl (lv_at hl 1 rfl) ?_
          refine lv_bipush (v := 23) hx hb d_M_addName_70 (by decide) ?_
          refine lv_icmp_ne (tgt := 81) hx hb d_M_addName_72 (by decide) (fun c_31 => ?_) (fun c_31 => ?_)
          · skip
            refine lv_aload_n hx hb d_M_addName_81 rfl (lv_at hl 0 rfl) ?_
            refine lv_iload_n hx hb d_M_addName_82 rfl (lv_at hl 1 rfl) ?_
            refine go_v (wr := []) (run_V hF (c_M_addOwn g l _ h0 a1 a2 a3 a4 n2 n3 (z_M_one (z_M_addOwn (z_M_add (z_M_add xs 456901681454) 465491093294) (t - 1)) 36) md_30 hm_30 t (by omega)) k_M_addOwn j_M_99 se_M_M_addOwn (va_recv hK hP (ci := 4) (q0 := 0) rfl rfl) (cw_down G hP hD hS hA [0, 1] rfl rfl) ⟨Nat.le_of_ble_eq_true rfl, Nat.le_of_ble_eq_true rfl⟩ rfl hl.1 (Nat.le_of_ble_eq_true rfl) d_M_addName_83 ⟨(by first | exact Nat.le_of_ble_eq_true rfl | (dsimp only; omega) | omega), (by first | exact Nat.le_of_ble_eq_true rfl | (dsimp only; omega) | omega)⟩) hP hD hS hA [0, 1] [] rfl rfl rfl (by decide) (fun w1 H locs hp hP hD hS => ?_)
            obtain ⟨md_33, rfl, hm_33, hn_33, hn_33b⟩ := hp
            have hP : va_P (gD g) classes [(h0, .inr (4, [.ref a1, .int (nI (z_M_addOwn (z_M_one (z_M_addOwn (z_M_add (z_M_add xs 456901681454) 465491093294) (t - 1)) 36) t).length), .ref a2, .int n2, .ref a3, .ref a4, .int n3])), (a1, .inl (gI g, 200, .inl md_33))] H := hP
            have hD : va_D A [(h0, .inr (4, [.ref a1, .int (nI (z_M_addOwn (z_M_one (z_M_addOwn (z_M_add (z_M_add xs 456901681454) 465491093294) (t - 1)) 36) t).length), .ref a2, .int n2, .ref a3, .ref a4, .int n3])), (a1, .inl (gI g, 200, .inl md_33))] := hD
            have e : z_M_addName xs t = (z_M_addOwn (z_M_one (z_M_addOwn (z_M_add (z_M_add xs 456901681454) 465491093294) (t - 1)) 36) t) := by rw [z_M_addName, if_pos c_1, if_pos c_6, if_neg c_7, if_pos c_19, if_neg c_31]
            exact ret_v hx hb hr hlk (hP.sub (ws' := [(h0, .inr (4, [.ref a1, .int (nI (z_M_addOwn (z_M_one (z_M_addOwn (z_M_add (z_M_add xs 456901681454) 465491093294) (t - 1)) 36) t).length), .ref a2, .int n2, .ref a3, .ref a4, .int n3])), (a1, .inl (gI g, 200, .inl md_33))]) [0, 1] rfl) (hD.sub (ws' := [(h0, .inr (4, [.ref a1, .int (nI (z_M_addOwn (z_M_one (z_M_addOwn (z_M_add (z_M_add xs 456901681454) 465491093294) (t - 1)) 36) t).length), .ref a2, .int n2, .ref a3, .ref a4, .int n3])), (a1, .inl (gI g, 200, .inl md_33))]) [0, 1] rfl rfl) hS ⟨md_33, by rw [e], by rw [e]; exact hm_33, by rw [e]; omega, by rw [e]; omega⟩ (by first | exact Nat.le_of_ble_eq_true rfl | (dsimp only; omega) | omega) (by first | exact Nat.le_of_ble_eq_true rfl | (dsimp only; omega) | omega) d_M_addName_86
          · skip
            refine lv_aload_n hx hb d_M_addName_75 rfl (lv_at hl 0 rfl) ?_
            refine lv_bipush (v := 49) hx hb d_M_addName_76 (by decide) ?_
            refine go_v (wr := []) (run_V hF (c_M_one g l _ h0 a1 a2 a3 a4 n2 n3 (z_M_one (z_M_addOwn (z_M_add (z_M_add xs 456901681454) 465491093294) (t - 1)) 36) md_30 hm_30 49 (by omega)) k_M_one j_M_79 se_M_M_one (va_recv hK hP (ci := 4) (q0 := 0) rfl rfl) (cw_down G hP hD hS hA [0, 1] rfl rfl) ⟨Nat.le_of_ble_eq_true rfl, Nat.le_of_ble_eq_true rfl⟩ rfl hl.1 (Nat.le_of_ble_eq_true rfl) d_M_addName_78 ⟨(by first | exact Nat.le_of_ble_eq_true rfl | (dsimp only; omega) | omega), (by first | exact Nat.le_of_ble_eq_true rfl | (dsimp only; omega) | omega)⟩) hP hD hS hA [0, 1] [] rfl rfl rfl (by decide) (fun w1 H locs hp hP hD hS => ?_)
            obtain ⟨md_35, rfl, hm_35, hn_35, hn_35b⟩ := hp
            have hP : va_P (gD g) classes [(h0, .inr (4, [.ref a1, .int (nI (z_M_one (z_M_one (z_M_addOwn (z_M_add (z_M_add xs 456901681454) 465491093294) (t - 1)) 36) 49).length), .ref a2, .int n2, .ref a3, .ref a4, .int n3])), (a1, .inl (gI g, 200, .inl md_35))] H := hP
            have hD : va_D A [(h0, .inr (4, [.ref a1, .int (nI (z_M_one (z_M_one (z_M_addOwn (z_M_add (z_M_add xs 456901681454) 465491093294) (t - 1)) 36) 49).length), .ref a2, .int n2, .ref a3, .ref a4, .int n3])), (a1, .inl (gI g, 200, .inl md_35))] := hD
            refine lv_aload_n hx hb d_M_addName_81 rfl (lv_at hl 0 rfl) ?_
            refine lv_iload_n hx hb d_M_addName_82 rfl (lv_at hl 1 rfl) ?_
            refine go_v (wr := []) (run_V hF (c_M_addOwn g l _ h0 a1 a2 a3 a4 n2 n3 (z_M_one (z_M_one (z_M_addOwn (z_M_add (z_M_add xs 456901681454) 465491093294) (t - 1)) 36) 49) md_35 hm_35 t (by omega)) k_M_addOwn j_M_99 se_M_M_addOwn (va_recv hK hP (ci := 4) (q0 := 0) rfl rfl) (cw_down G hP hD hS hA [0, 1] rfl rfl) ⟨Nat.le_of_ble_eq_true rfl, Nat.le_of_ble_eq_true rfl⟩ rfl hl.1 (Nat.le_of_ble_eq_true rfl) d_M_addName_83 ⟨(by first | exact Nat.le_of_ble_eq_true rfl | (dsimp only; omega) | omega), (by first | exact Nat.le_of_ble_eq_true rfl | (dsimp only; omega) | omega)⟩) hP hD hS hA [0, 1] [] rfl rfl rfl (by decide) (fun w1 H locs hp hP hD hS => ?_)
            obtain ⟨md_37, rfl, hm_37, hn_37, hn_37b⟩ := hp
            have hP : va_P (gD g) classes [(h0, .inr (4, [.ref a1, .int (nI (z_M_addOwn (z_M_one (z_M_one (z_M_addOwn (z_M_add (z_M_add xs 456901681454) 465491093294) (t - 1)) 36) 49) t).length), .ref a2, .int n2, .ref a3, .ref a4, .int n3])), (a1, .inl (gI g, 200, .inl md_37))] H := hP
            have hD : va_D A [(h0, .inr (4, [.ref a1, .int (nI (z_M_addOwn (z_M_one (z_M_one (z_M_addOwn (z_M_add (z_M_add xs 456901681454) 465491093294) (t - 1)) 36) 49) t).length), .ref a2, .int n2, .ref a3, .ref a4, .int n3])), (a1, .inl (gI g, 200, .inl md_37))] := hD
            have e : z_M_addName xs t = (z_M_addOwn (z_M_one (z_M_one (z_M_addOwn (z_M_add (z_M_add xs 456901681454) 465491093294) (t - 1)) 36) 49) t) := by rw [z_M_addName, if_pos c_1, if_pos c_6, if_neg c_7, if_pos c_19, if_pos c_31]
            exact ret_v hx hb hr hlk (hP.sub (ws' := [(h0, .inr (4, [.ref a1, .int (nI (z_M_addOwn (z_M_one (z_M_one (z_M_addOwn (z_M_add (z_M_add xs 456901681454) 465491093294) (t - 1)) 36) 49) t).length), .ref a2, .int n2, .ref a3, .ref a4, .int n3])), (a1, .inl (gI g, 200, .inl md_37))]) [0, 1] rfl) (hD.sub (ws' := [(h0, .inr (4, [.ref a1, .int (nI (z_M_addOwn (z_M_one (z_M_one (z_M_addOwn (z_M_add (z_M_add xs 456901681454) 465491093294) (t - 1)) 36) 49) t).length), .ref a2, .int n2, .ref a3, .ref a4, .int n3])), (a1, .inl (gI g, 200, .inl md_37))]) [0, 1] rfl rfl) hS ⟨md_37, by rw [e], by rw [e]; exact hm_37, by rw [e]; omega, by rw [e]; omega⟩ (by first | exact Nat.le_of_ble_eq_true rfl | (dsimp only; omega) | omega) (by first | exact Nat.le_of_ble_eq_true rfl | (dsimp only; omega) | omega) d_M_addName_86
    · skip
      refine lv_aload_n hx hb d_M_addName_32 rfl (lv_at hl 0 rfl) ?_
      refine lv_bipush (v := 11) hx hb d_M_addName_33 (by decide) ?_
      refine go_v (wr := []) (run_V hF (c_M_addOwn g l _ h0 a1 a2 a3 a4 n2 n3 (z_M_add (z_M_add xs 456901681454) 465491093294) md_5 hm_5 11 (by omega)) k_M_addOwn j_M_99 se_M_M_addOwn (va_recv hK hP (ci := 4) (q0 := 0) rfl rfl) (cw_down G hP hD hS hA [0, 1] rfl rfl) ⟨Nat.le_of_ble_eq_true rfl, Nat.le_of_ble_eq_true rfl⟩ rfl hl.1 (Nat.le_of_ble_eq_true rfl) d_M_addName_35 ⟨(by first | exact Nat.le_of_ble_eq_true rfl | (dsimp only; omega) | omega), (by first | exact Nat.le_of_ble_eq_true rfl | (dsimp only; omega) | omega)⟩) hP hD hS hA [0, 1] [] rfl rfl rfl (by decide) (fun w1 H locs hp hP hD hS => ?_)
      obtain ⟨md_39, rfl, hm_39, hn_39, hn_39b⟩ := hp
      have hP : va_P (gD g) classes [(h0, .inr (4, [.ref a1, .int (nI (z_M_addOwn (z_M_add (z_M_add xs 456901681454) 465491093294) 11).length), .ref a2, .int n2, .ref a3, .ref a4, .int n3])), (a1, .inl (gI g, 200, .inl md_39))] H := hP
      have hD : va_D A [(h0, .inr (4, [.ref a1, .int (nI (z_M_addOwn (z_M_add (z_M_add xs 456901681454) 465491093294) 11).length), .ref a2, .int n2, .ref a3, .ref a4, .int n3])), (a1, .inl (gI g, 200, .inl md_39))] := hD
      refine lv_aload_n hx hb d_M_addName_38 rfl (lv_at hl 0 rfl) ?_
      refine lv_bipush (v := 36) hx hb d_M_addName_39 (by decide) ?_
      refine go_v (wr := []) (run_V hF (c_M_one g l _ h0 a1 a2 a3 a4 n2 n3 (z_M_addOwn (z_M_add (z_M_add xs 456901681454) 465491093294) 11) md_39 hm_39 36 (by omega)) k_M_one j_M_79 se_M_M_one (va_recv hK hP (ci := 4) (q0 := 0) rfl rfl) (cw_down G hP hD hS hA [0, 1] rfl rfl) ⟨Nat.le_of_ble_eq_true rfl, Nat.le_of_ble_eq_true rfl⟩ rfl hl.1 (Nat.le_of_ble_eq_true rfl) d_M_addName_41 ⟨(by first | exact Nat.le_of_ble_eq_true rfl | (dsimp only; omega) | omega), (by first | exact Nat.le_of_ble_eq_true rfl | (dsimp only; omega) | omega)⟩) hP hD hS hA [0, 1] [] rfl rfl rfl (by decide) (fun w1 H locs hp hP hD hS => ?_)
      obtain ⟨md_41, rfl, hm_41, hn_41, hn_41b⟩ := hp
      have hP : va_P (gD g) classes [(h0, .inr (4, [.ref a1, .int (nI (z_M_one (z_M_addOwn (z_M_add (z_M_add xs 456901681454) 465491093294) 11) 36).length), .ref a2, .int n2, .ref a3, .ref a4, .int n3])), (a1, .inl (gI g, 200, .inl md_41))] H := hP
      have hD : va_D A [(h0, .inr (4, [.ref a1, .int (nI (z_M_one (z_M_addOwn (z_M_add (z_M_add xs 456901681454) 465491093294) 11) 36).length), .ref a2, .int n2, .ref a3, .ref a4, .int n3])), (a1, .inl (gI g, 200, .inl md_41))] := hD
      refine lv_iload_n hx hb d_M_addName_44 rfl (lv_at hl 1 rfl) ?_
      refine lv_bipush (v := 17) hx hb d_M_addName_45 (by decide) ?_
      refine lv_icmp_eq (tgt := 56) hx hb d_M_addName_47 (by decide) (fun c_42 => ?_) (fun c_42 => ?_)
      · skip
        refine lv_aload_n hx hb d_M_addName_56 rfl (lv_at hl 0 rfl) ?_
        refine lv_iload_n hx hb d_M_addName_57 rfl (lv_at hl 1 rfl) ?_
        refine lv_iconst (v := 1) hx hb d_M_addName_58 (by decide) ?_
        refine lv_isub hx hb d_M_addName_59 ?_
        refine go_v (wr := []) (run_V hF (c_M_addOwn g l _ h0 a1 a2 a3 a4 n2 n3 (z_M_one (z_M_addOwn (z_M_add (z_M_add xs 456901681454) 465491093294) 11) 36) md_41 hm_41 (t - 1) (by omega)) k_M_addOwn j_M_99 se_M_M_addOwn (va_recv hK hP (ci := 4) (q0 := 0) rfl rfl) (cw_down G hP hD hS hA [0, 1] rfl rfl) ⟨Nat.le_of_ble_eq_true rfl, Nat.le_of_ble_eq_true rfl⟩ rfl hl.1 (Nat.le_of_ble_eq_true rfl) d_M_addName_60 ⟨(by first | exact Nat.le_of_ble_eq_true rfl | (dsimp only; omega) | omega), (by first | exact Nat.le_of_ble_eq_true rfl | (dsimp only; omega) | omega)⟩) hP hD hS hA [0, 1] [] rfl rfl rfl (by decide) (fun w1 H locs hp hP hD hS => ?_)
        obtain ⟨md_44, rfl, hm_44, hn_44, hn_44b⟩ := hp
        have hP : va_P (gD g) classes [(h0, .inr (4, [.ref a1, .int (nI (z_M_addOwn (z_M_one (z_M_addOwn (z_M_add (z_M_add xs 456901681454) 465491093294) 11) 36) (t - 1)).length), .ref a2, .int n2, .ref a3, .ref a4, .int n3])), (a1, .inl (gI g, 200, .inl md_44))] H := hP
        have hD : va_D A [(h0, .inr (4, [.ref a1, .int (nI (z_M_addOwn (z_M_one (z_M_addOwn (z_M_add (z_M_add xs 456901681454) 465491093294) 11) 36) (t - 1)).length), .ref a2, .int n2, .ref a3, .ref a4, .int n3])), (a1, .inl (gI g, 200, .inl md_44))] := hD
        refine lv_aload_n hx hb d_M_addName_63 rfl (lv_at hl 0 rfl) ?_
        refine lv_bipush (v := 36) hx hb d_M_addName_64 (by decide) ?_
        refine go_v (wr := []) (run_V hF (c_M_one g l _ h0 a1 a2 a3 a4 n2 n3 (z_M_addOwn (z_M_one (z_M_addOwn (z_M_add (z_M_add xs 456901681454) 465491093294) 11) 36) (t - 1)) md_44 hm_44 36 (by omega)) k_M_one j_M_79 se_M_M_one (va_recv hK hP (ci := 4) (q0 := 0) rfl rfl) (cw_down G hP hD hS hA [0, 1] rfl rfl) ⟨Nat.le_of_ble_eq_true rfl, Nat.le_of_ble_eq_true rfl⟩ rfl hl.1 (Nat.le_of_ble_eq_true rfl) d_M_addName_66 ⟨(by first | exact Nat.le_of_ble_eq_true rfl | (dsimp only; omega) | omega), (by first | exact Nat.le_of_ble_eq_true rfl | (dsimp only; omega) | omega)⟩) hP hD hS hA [0, 1] [] rfl rfl rfl (by decide) (fun w1 H locs hp hP hD hS => ?_)
        obtain ⟨md_46, rfl, hm_46, hn_46, hn_46b⟩ := hp
        have hP : va_P (gD g) classes [(h0, .inr (4, [.ref a1, .int (nI (z_M_one (z_M_addOwn (z_M_one (z_M_addOwn (z_M_add (z_M_add xs 456901681454) 465491093294) 11) 36) (t - 1)) 36).length), .ref a2, .int n2, .ref a3, .ref a4, .int n3])), (a1, .inl (gI g, 200, .inl md_46))] H := hP
        have hD : va_D A [(h0, .inr (4, [.ref a1, .int (nI (z_M_one (z_M_addOwn (z_M_one (z_M_addOwn (z_M_add (z_M_add xs 456901681454) 465491093294) 11) 36) (t - 1)) 36).length), .ref a2, .int n2, .ref a3, .ref a4, .int n3])), (a1, .inl (gI g, 200, .inl md_46))] := hD
        refine lv_iload_n hx hb d_M_addName_69 rfl (lv_at hl 1 rfl) ?_
        refine lv_bipush (v := 23) hx hb d_M_addName_70 (by decide) ?_
        refine lv_icmp_ne (tgt := 81) hx hb d_M_addName_72 (by decide) (fun c_47 => ?_) (fun c_47 => ?_)
        · skip
          refine lv_aload_n hx hb d_M_addName_81 rfl (lv_at hl 0 rfl) ?_
          refine lv_iload_n hx hb d_M_addName_82 rfl (lv_at hl 1 rfl) ?_
          refine go_v (wr := []) (run_V hF (c_M_addOwn g l _ h0 a1 a2 a3 a4 n2 n3 (z_M_one (z_M_addOwn (z_M_one (z_M_addOwn (z_M_add (z_M_add xs 456901681454) 465491093294) 11) 36) (t - 1)) 36) md_46 hm_46 t (by omega)) k_M_addOwn j_M_99 se_M_M_addOwn (va_recv hK hP (ci := 4) (q0 := 0) rfl rfl) (cw_down G hP hD hS hA [0, 1] rfl rfl) ⟨Nat.le_of_ble_eq_true rfl, Nat.le_of_ble_eq_true rfl⟩ rfl hl.1 (Nat.le_of_ble_eq_true rfl) d_M_addName_83 ⟨(by first | exact Nat.le_of_ble_eq_true rfl | (dsimp only; omega) | omega), (by first | exact Nat.le_of_ble_eq_true rfl | (dsimp only; omega) | omega)⟩) hP hD hS hA [0, 1] [] rfl rfl rfl (by decide) (fun w1 H locs hp hP hD hS => ?_)
          obtain ⟨md_49, rfl, hm_49, hn_49, hn_49b⟩ := hp
          have hP : va_P (gD g) classes [(h0, .inr (4, [.ref a1, .int (nI (z_M_addOwn (z_M_one (z_M_addOwn (z_M_one (z_M_addOwn (z_M_add (z_M_add xs 456901681454) 465491093294) 11) 36) (t - 1)) 36) t).length), .ref a2, .int n2, .ref a3, .ref a4, .int n3])), (a1, .inl (gI g, 200, .inl md_49))] H := hP
          have hD : va_D A [(h0, .inr (4, [.ref a1, .int (nI (z_M_addOwn (z_M_one (z_M_addOwn (z_M_one (z_M_addOwn (z_M_add (z_M_add xs 456901681454) 465491093294) 11) 36) (t - 1)) 36) t).length), .ref a2, .int n2, .ref a3, .ref a4, .int n3])), (a1, .inl (gI g, 200, .inl md_49))] := hD
          have e : z_M_addName xs t = (z_M_addOwn (z_M_one (z_M_addOwn (z_M_one (z_M_addOwn (z_M_add (z_M_add xs 456901681454) 465491093294) 11) 36) (t - 1)) 36) t) := by rw [z_M_addName, if_pos c_1, if_neg c_6, if_pos c_42, if_neg c_47]
          exact ret_v hx hb hr hlk (hP.sub (ws' := [(h0, .inr (4, [.ref a1, .int (nI (z_M_addOwn (z_M_one (z_M_addOwn (z_M_one (z_M_addOwn (z_M_add (z_M_add xs 456901681454) 465491093294) 11) 36) (t - 1)) 36) t).length), .ref a2, .int n2, .ref a3, .ref a4, .int n3])), (a1, .inl (gI g, 200, .inl md_49))]) [0, 1] rfl) (hD.sub (ws' := [(h0, .inr (4, [.ref a1, .int (nI (z_M_addOwn (z_M_one (z_M_addOwn (z_M_one (z_M_addOwn (z_M_add (z_M_add xs 456901681454) 465491093294) 11) 36) (t - 1)) 36) t).length), .ref a2, .int n2, .ref a3, .ref a4, .int n3])), (a1, .inl (gI g, 200, .inl md_49))]) [0, 1] rfl rfl) hS ⟨md_49, by rw [e], by rw [e]; exact hm_49, by rw [e]; omega, by rw [e]; omega⟩ (by first | exact Nat.le_of_ble_eq_true rfl | (dsimp only; omega) | omega) (by first | exact Nat.le_of_ble_eq_true rfl | (dsimp only; omega) | omega) d_M_addName_86
        · skip
          refine lv_aload_n hx hb d_M_addName_75 rfl (lv_at hl 0 rfl) ?_
          refine lv_bipush (v := 49) hx hb d_M_addName_76 (by decide) ?_
          refine go_v (wr := []) (run_V hF (c_M_one g l _ h0 a1 a2 a3 a4 n2 n3 (z_M_one (z_M_addOwn (z_M_one (z_M_addOwn (z_M_add (z_M_add xs 456901681454) 465491093294) 11) 36) (t - 1)) 36) md_46 hm_46 49 (by omega)) k_M_one j_M_79 se_M_M_one (va_recv hK hP (ci := 4) (q0 := 0) rfl rfl) (cw_down G hP hD hS hA [0, 1] rfl rfl) ⟨Nat.le_of_ble_eq_true rfl, Nat.le_of_ble_eq_true rfl⟩ rfl hl.1 (Nat.le_of_ble_eq_true rfl) d_M_addName_78 ⟨(by first | exact Nat.le_of_ble_eq_true rfl | (dsimp only; omega) | omega), (by first | exact Nat.le_of_ble_eq_true rfl | (dsimp only; omega) | omega)⟩) hP hD hS hA [0, 1] [] rfl rfl rfl (by decide) (fun w1 H locs hp hP hD hS => ?_)
          obtain ⟨md_51, rfl, hm_51, hn_51, hn_51b⟩ := hp
          have hP : va_P (gD g) classes [(h0, .inr (4, [.ref a1, .int (nI (z_M_one (z_M_one (z_M_addOwn (z_M_one (z_M_addOwn (z_M_add (z_M_add xs 456901681454) 465491093294) 11) 36) (t - 1)) 36) 49).length), .ref a2, .int n2, .ref a3, .ref a4, .int n3])), (a1, .inl (gI g, 200, .inl md_51))] H := hP
          have hD : va_D A [(h0, .inr (4, [.ref a1, .int (nI (z_M_one (z_M_one (z_M_addOwn (z_M_one (z_M_addOwn (z_M_add (z_M_add xs 456901681454) 465491093294) 11) 36) (t - 1)) 36) 49).length), .ref a2, .int n2, .ref a3, .ref a4, .int n3])), (a1, .inl (gI g, 200, .inl md_51))] := hD
          refine lv_aload_n hx hb d_M_addName_81 rfl (lv_at hl 0 rfl) ?_
          refine lv_iload_n hx hb d_M_addName_82 rfl (lv_at hl 1 rfl) ?_
          refine go_v (wr := []) (run_V hF (c_M_addOwn g l _ h0 a1 a2 a3 a4 n2 n3 (z_M_one (z_M_one (z_M_addOwn (z_M_one (z_M_addOwn (z_M_add (z_M_add xs 456901681454) 465491093294) 11) 36) (t - 1)) 36) 49) md_51 hm_51 t (by omega)) k_M_addOwn j_M_99 se_M_M_addOwn (va_recv hK hP (ci := 4) (q0 := 0) rfl rfl) (cw_down G hP hD hS hA [0, 1] rfl rfl) ⟨Nat.le_of_ble_eq_true rfl, Nat.le_of_ble_eq_true rfl⟩ rfl hl.1 (Nat.le_of_ble_eq_true rfl) d_M_addName_83 ⟨(by first | exact Nat.le_of_ble_eq_true rfl | (dsimp only; omega) | omega), (by first | exact Nat.le_of_ble_eq_true rfl | (dsimp only; omega) | omega)⟩) hP hD hS hA [0, 1] [] rfl rfl rfl (by decide) (fun w1 H locs hp hP hD hS => ?_)
          obtain ⟨md_53, rfl, hm_53, hn_53, hn_53b⟩ := hp
          have hP : va_P (gD g) classes [(h0, .inr (4, [.ref a1, .int (nI (z_M_addOwn (z_M_one (z_M_one (z_M_addOwn (z_M_one (z_M_addOwn (z_M_add (z_M_add xs 456901681454) 465491093294) 11) 36) (t - 1)) 36) 49) t).length), .ref a2, .int n2, .ref a3, .ref a4, .int n3])), (a1, .inl (gI g, 200, .inl md_53))] H := hP
          have hD : va_D A [(h0, .inr (4, [.ref a1, .int (nI (z_M_addOwn (z_M_one (z_M_one (z_M_addOwn (z_M_one (z_M_addOwn (z_M_add (z_M_add xs 456901681454) 465491093294) 11) 36) (t - 1)) 36) 49) t).length), .ref a2, .int n2, .ref a3, .ref a4, .int n3])), (a1, .inl (gI g, 200, .inl md_53))] := hD
          have e : z_M_addName xs t = (z_M_addOwn (z_M_one (z_M_one (z_M_addOwn (z_M_one (z_M_addOwn (z_M_add (z_M_add xs 456901681454) 465491093294) 11) 36) (t - 1)) 36) 49) t) := by rw [z_M_addName, if_pos c_1, if_neg c_6, if_pos c_42, if_pos c_47]
          exact ret_v hx hb hr hlk (hP.sub (ws' := [(h0, .inr (4, [.ref a1, .int (nI (z_M_addOwn (z_M_one (z_M_one (z_M_addOwn (z_M_one (z_M_addOwn (z_M_add (z_M_add xs 456901681454) 465491093294) 11) 36) (t - 1)) 36) 49) t).length), .ref a2, .int n2, .ref a3, .ref a4, .int n3])), (a1, .inl (gI g, 200, .inl md_53))]) [0, 1] rfl) (hD.sub (ws' := [(h0, .inr (4, [.ref a1, .int (nI (z_M_addOwn (z_M_one (z_M_one (z_M_addOwn (z_M_one (z_M_addOwn (z_M_add (z_M_add xs 456901681454) 465491093294) 11) 36) (t - 1)) 36) 49) t).length), .ref a2, .int n2, .ref a3, .ref a4, .int n3])), (a1, .inl (gI g, 200, .inl md_53))]) [0, 1] rfl rfl) hS ⟨md_53, by rw [e], by rw [e]; exact hm_53, by rw [e]; omega, by rw [e]; omega⟩ (by first | exact Nat.le_of_ble_eq_true rfl | (dsimp only; omega) | omega) (by first | exact Nat.le_of_ble_eq_true rfl | (dsimp only; omega) | omega) d_M_addName_86
      · skip
        refine lv_iload_n hx hb d_M_addName_50 rfl (lv_at hl 1 rfl) ?_
        refine lv_bipush (v := 19) hx hb d_M_addName_51 (by decide) ?_
        refine lv_icmp_ne (tgt := 69) hx hb d_M_addName_53 (by decide) (fun c_54 => ?_) (fun c_54 => ?_)
        · skip
          refine lv_iload_n hx hb d_M_addName_69 rfl (lv_at hl 1 rfl) ?_
          refine lv_bipush (v := 23) hx hb d_M_addName_70 (by decide) ?_
          refine lv_icmp_ne (tgt := 81) hx hb d_M_addName_72 (by decide) (fun c_55 => ?_) (fun c_55 => ?_)
          · skip
            refine lv_aload_n hx hb d_M_addName_81 rfl (lv_at hl 0 rfl) ?_
            refine lv_iload_n hx hb d_M_addName_82 rfl (lv_at hl 1 rfl) ?_
            refine go_v (wr := []) (run_V hF (c_M_addOwn g l _ h0 a1 a2 a3 a4 n2 n3 (z_M_one (z_M_addOwn (z_M_add (z_M_add xs 456901681454) 465491093294) 11) 36) md_41 hm_41 t (by omega)) k_M_addOwn j_M_99 se_M_M_addOwn (va_recv hK hP (ci := 4) (q0 := 0) rfl rfl) (cw_down G hP hD hS hA [0, 1] rfl rfl) ⟨Nat.le_of_ble_eq_true rfl, Nat.le_of_ble_eq_true rfl⟩ rfl hl.1 (Nat.le_of_ble_eq_true rfl) d_M_addName_83 ⟨(by first | exact Nat.le_of_ble_eq_true rfl | (dsimp only; omega) | omega), (by first | exact Nat.le_of_ble_eq_true rfl | (dsimp only; omega) | omega)⟩) hP hD hS hA [0, 1] [] rfl rfl rfl (by decide) (fun w1 H locs hp hP hD hS => ?_)
            obtain ⟨md_57, rfl, hm_57, hn_57, hn_57b⟩ := hp
            have hP : va_P (gD g) classes [(h0, .inr (4, [.ref a1, .int (nI (z_M_addOwn (z_M_one (z_M_addOwn (z_M_add (z_M_add xs 456901681454) 465491093294) 11) 36) t).length), .ref a2, .int n2, .ref a3, .ref a4, .int n3])), (a1, .inl (gI g, 200, .inl md_57))] H := hP
            have hD : va_D A [(h0, .inr (4, [.ref a1, .int (nI (z_M_addOwn (z_M_one (z_M_addOwn (z_M_add (z_M_add xs 456901681454) 465491093294) 11) 36) t).length), .ref a2, .int n2, .ref a3, .ref a4, .int n3])), (a1, .inl (gI g, 200, .inl md_57))] := hD
            have e : z_M_addName xs t = (z_M_addOwn (z_M_one (z_M_addOwn (z_M_add (z_M_add xs 456901681454) 465491093294) 11) 36) t) := by rw [z_M_addName, if_pos c_1, if_neg c_6, if_neg c_42, if_neg c_54, if_neg c_55]
            exact ret_v hx hb hr hlk (hP.sub (ws' := [(h0, .inr (4, [.ref a1, .int (nI (z_M_addOwn (z_M_one (z_M_addOwn (z_M_add (z_M_add xs 456901681454) 465491093294) 11) 36) t).length), .ref a2, .int n2, .ref a3, .ref a4, .int n3])), (a1, .inl (gI g, 200, .inl md_57))]) [0, 1] rfl) (hD.sub (ws' := [(h0, .inr (4, [.ref a1, .int (nI (z_M_addOwn (z_M_one (z_M_addOwn (z_M_add (z_M_add xs 456901681454) 465491093294) 11) 36) t).length), .ref a2, .int n2, .ref a3, .ref a4, .int n3])), (a1, .inl (gI g, 200, .inl md_57))]) [0, 1] rfl rfl) hS ⟨md_57, by rw [e], by rw [e]; exact hm_57, by rw [e]; omega, by rw [e]; omega⟩ (by first | exact Nat.le_of_ble_eq_true rfl | (dsimp only; omega) | omega) (by first | exact Nat.le_of_ble_eq_true rfl | (dsimp only; omega) | omega) d_M_addName_86
          · skip
            refine lv_aload_n hx hb d_M_addName_75 rfl (lv_at hl 0 rfl) ?_
            refine lv_bipush (v := 49) hx hb d_M_addName_76 (by decide) ?_
            refine go_v (wr := []) (run_V hF (c_M_one g l _ h0 a1 a2 a3 a4 n2 n3 (z_M_one (z_M_addOwn (z_M_add (z_M_add xs 456901681454) 465491093294) 11) 36) md_41 hm_41 49 (by omega)) k_M_one j_M_79 se_M_M_one (va_recv hK hP (ci := 4) (q0 := 0) rfl rfl) (cw_down G hP hD hS hA [0, 1] rfl rfl) ⟨Nat.le_of_ble_eq_true rfl, Nat.le_of_ble_eq_true rfl⟩ rfl hl.1 (Nat.le_of_ble_eq_true rfl) d_M_addName_78 ⟨(by first | exact Nat.le_of_ble_eq_true rfl | (dsimp only; omega) | omega), (by first | exact Nat.le_of_ble_eq_true rfl | (dsimp only; omega) | omega)⟩) hP hD hS hA [0, 1] [] rfl rfl rfl (by decide) (fun w1 H locs hp hP hD hS => ?_)
            obtain ⟨md_59, rfl, hm_59, hn_59, hn_59b⟩ := hp
            have hP : va_P (gD g) classes [(h0, .inr (4, [.ref a1, .int (nI (z_M_one (z_M_one (z_M_addOwn (z_M_add (z_M_add xs 456901681454) 465491093294) 11) 36) 49).length), .ref a2, .int n2, .ref a3, .ref a4, .int n3])), (a1, .inl (gI g, 200, .inl md_59))] H := hP
            have hD : va_D A [(h0, .inr (4, [.ref a1, .int (nI (z_M_one (z_M_one (z_M_addOwn (z_M_add (z_M_add xs 456901681454) 465491093294) 11) 36) 49).length), .ref a2, .int n2, .ref a3, .ref a4, .int n3])), (a1, .inl (gI g, 200, .inl md_59))] := hD
            refine lv_aload_n hx hb d_M_addName_81 rfl (lv_at hl 0 rfl) ?_
            refine lv_iload_n hx hb d_M_addName_82 rfl (lv_at hl 1 rfl) ?_
            refine go_v (wr := []) (run_V hF (c_M_addOwn g l _ h0 a1 a2 a3 a4 n2 n3 (z_M_one (z_M_one (z_M_addOwn (z_M_add (z_M_add xs 456901681454) 465491093294) 11) 36) 49) md_59 hm_59 t (by omega)) k_M_addOwn j_M_99 se_M_M_addOwn (va_recv hK hP (ci := 4) (q0 := 0) rfl rfl) (cw_down G hP hD hS hA [0, 1] rfl rfl) ⟨Nat.le_of_ble_eq_true rfl, Nat.le_of_ble_eq_true rfl⟩ rfl hl.1 (Nat.le_of_ble_eq_true rfl) d_M_addName_83 ⟨(by first | exact Nat.le_of_ble_eq_true rfl | (dsimp only; omega) | omega), (by first | exact Nat.le_of_ble_eq_true rfl | (dsimp only; omega) | omega)⟩) hP hD hS hA [0, 1] [] rfl rfl rfl (by decide) (fun w1 H locs hp hP hD hS => ?_)
            obtain ⟨md_61, rfl, hm_61, hn_61, hn_61b⟩ := hp
            have hP : va_P (gD g) classes [(h0, .inr (4, [.ref a1, .int (nI (z_M_addOwn (z_M_one (z_M_one (z_M_addOwn (z_M_add (z_M_add xs 456901681454) 465491093294) 11) 36) 49) t).length), .ref a2, .int n2, .ref a3, .ref a4, .int n3])), (a1, .inl (gI g, 200, .inl md_61))] H := hP
            have hD : va_D A [(h0, .inr (4, [.ref a1, .int (nI (z_M_addOwn (z_M_one (z_M_one (z_M_addOwn (z_M_add (z_M_add xs 456901681454) 465491093294) 11) 36) 49) t).length), .ref a2, .int n2, .ref a3, .ref a4, .int n3])), (a1, .inl (gI g, 200, .inl md_61))] := hD
            have e : z_M_addName xs t = (z_M_addOwn (z_M_one (z_M_one (z_M_addOwn (z_M_add (z_M_add xs 456901681454) 465491093294) 11) 36) 49) t) := by rw [z_M_addName, if_pos c_1, if_neg c_6, if_neg c_42, if_neg c_54, if_pos c_55]
            exact ret_v hx hb hr hlk (hP.sub (ws' := [(h0, .inr (4, [.ref a1, .int (nI (z_M_addOwn (z_M_one (z_M_one (z_M_addOwn (z_M_add (z_M_add xs 456901681454) 465491093294) 11) 36) 49) t).length), .ref a2, .int n2, .ref a3, .ref a4, .int n3])), (a1, .inl (gI g, 200, .inl md_61))]) [0, 1] rfl) (hD.sub (ws' := [(h0, .inr (4, [.ref a1, .int (nI (z_M_addOwn (z_M_one (z_M_one (z_M_addOwn (z_M_add (z_M_add xs 456901681454) 465491093294) 11) 36) 49) t).length), .ref a2, .int n2, .ref a3, .ref a4, .int n3])), (a1, .inl (gI g, 200, .inl md_61))]) [0, 1] rfl rfl) hS ⟨md_61, by rw [e], by rw [e]; exact hm_61, by rw [e]; omega, by rw [e]; omega⟩ (by first | exact Nat.le_of_ble_eq_true rfl | (dsimp only; omega) | omega) (by first | exact Nat.le_of_ble_eq_true rfl | (dsimp only; omega) | omega) d_M_addName_86
        · skip
          refine lv_aload_n hx hb d_M_addName_56 rfl (lv_at hl 0 rfl) ?_
          refine lv_iload_n hx hb d_M_addName_57 rfl (lv_at hl 1 rfl) ?_
          refine lv_iconst (v := 1) hx hb d_M_addName_58 (by decide) ?_
          refine lv_isub hx hb d_M_addName_59 ?_
          refine go_v (wr := []) (run_V hF (c_M_addOwn g l _ h0 a1 a2 a3 a4 n2 n3 (z_M_one (z_M_addOwn (z_M_add (z_M_add xs 456901681454) 465491093294) 11) 36) md_41 hm_41 (t - 1) (by omega)) k_M_addOwn j_M_99 se_M_M_addOwn (va_recv hK hP (ci := 4) (q0 := 0) rfl rfl) (cw_down G hP hD hS hA [0, 1] rfl rfl) ⟨Nat.le_of_ble_eq_true rfl, Nat.le_of_ble_eq_true rfl⟩ rfl hl.1 (Nat.le_of_ble_eq_true rfl) d_M_addName_60 ⟨(by first | exact Nat.le_of_ble_eq_true rfl | (dsimp only; omega) | omega), (by first | exact Nat.le_of_ble_eq_true rfl | (dsimp only; omega) | omega)⟩) hP hD hS hA [0, 1] [] rfl rfl rfl (by decide) (fun w1 H locs hp hP hD hS => ?_)
          obtain ⟨md_63, rfl, hm_63, hn_63, hn_63b⟩ := hp
          have hP : va_P (gD g) classes [(h0, .inr (4, [.ref a1, .int (nI (z_M_addOwn (z_M_one (z_M_addOwn (z_M_add (z_M_add xs 456901681454) 465491093294) 11) 36) (t - 1)).length), .ref a2, .int n2, .ref a3, .ref a4, .int n3])), (a1, .inl (gI g, 200, .inl md_63))] H := hP
          have hD : va_D A [(h0, .inr (4, [.ref a1, .int (nI (z_M_addOwn (z_M_one (z_M_addOwn (z_M_add (z_M_add xs 456901681454) 465491093294) 11) 36) (t - 1)).length), .ref a2, .int n2, .ref a3, .ref a4, .int n3])), (a1, .inl (gI g, 200, .inl md_63))] := hD
          refine lv_aload_n hx hb d_M_addName_63 rfl (lv_at hl 0 rfl) ?_
          refine lv_bipush (v := 36) hx hb d_M_addName_64 (by decide) ?_
          refine go_v (wr := []) (run_V hF (c_M_one g l _ h0 a1 a2 a3 a4 n2 n3 (z_M_addOwn (z_M_one (z_M_addOwn (z_M_add (z_M_add xs 456901681454) 465491093294) 11) 36) (t - 1)) md_63 hm_63 36 (by omega)) k_M_one j_M_79 se_M_M_one (va_recv hK hP (ci := 4) (q0 := 0) rfl rfl) (cw_down G hP hD hS hA [0, 1] rfl rfl) ⟨Nat.le_of_ble_eq_true rfl, Nat.le_of_ble_eq_true rfl⟩ rfl hl.1 (Nat.le_of_ble_eq_true rfl) d_M_addName_66 ⟨(by first | exact Nat.le_of_ble_eq_true rfl | (dsimp only; omega) | omega), (by first | exact Nat.le_of_ble_eq_true rfl | (dsimp only; omega) | omega)⟩) hP hD hS hA [0, 1] [] rfl rfl rfl (by decide) (fun w1 H locs hp hP hD hS => ?_)
          obtain ⟨md_65, rfl, hm_65, hn_65, hn_65b⟩ := hp
          have hP : va_P (gD g) classes [(h0, .inr (4, [.ref a1, .int (nI (z_M_one (z_M_addOwn (z_M_one (z_M_addOwn (z_M_add (z_M_add xs 456901681454) 465491093294) 11) 36) (t - 1)) 36).length), .ref a2, .int n2, .ref a3, .ref a4, .int n3])), (a1, .inl (gI g, 200, .inl md_65))] H := hP
          have hD : va_D A [(h0, .inr (4, [.ref a1, .int (nI (z_M_one (z_M_addOwn (z_M_one (z_M_addOwn (z_M_add (z_M_add xs 456901681454) 465491093294) 11) 36) (t - 1)) 36).length), .ref a2, .int n2, .ref a3, .ref a4, .int n3])), (a1, .inl (gI g, 200, .inl md_65))] := hD
          refine lv_iload_n hx hb d_M_addName_69 rfl (lv_at hl 1 rfl) ?_
          refine lv_bipush (v := 23) hx hb d_M_addName_70 (by decide) ?_
          refine lv_icmp_ne (tgt := 81) hx hb d_M_addName_72 (by decide) (fun c_66 => ?_) (fun c_66 => ?_)
          · skip
            refine lv_aload_n hx hb d_M_addName_81 rfl (lv_at hl 0 rfl) ?_
            refine lv_iload_n hx hb d_M_addName_82 rfl (lv_at hl 1 rfl) ?_
            refine go_v (wr := []) (run_V hF (c_M_addOwn g l _ h0 a1 a2 a3 a4 n2 n3 (z_M_one (z_M_addOwn (z_M_one (z_M_addOwn (z_M_add (z_M_add xs 456901681454) 465491093294) 11) 36) (t - 1)) 36) md_65 hm_65 t (by omega)) k_M_addOwn j_M_99 se_M_M_addOwn (va_recv hK hP (ci := 4) (q0 := 0) rfl rfl) (cw_down G hP hD hS hA [0, 1] rfl rfl) ⟨Nat.le_of_ble_eq_true rfl, Nat.le_of_ble_eq_true rfl⟩ rfl hl.1 (Nat.le_of_ble_eq_true rfl) d_M_addName_83 ⟨(by first | exact Nat.le_of_ble_eq_true rfl | (dsimp only; omega) | omega), (by first | exact Nat.le_of_ble_eq_true rfl | (dsimp only; omega) | omega)⟩) hP hD hS hA [0, 1] [] rfl rfl rfl (by decide) (fun w1 H locs hp hP hD hS => ?_)
            obtain ⟨md_68, rfl, hm_68, hn_68, hn_68b⟩ := hp
            have hP : va_P (gD g) classes [(h0, .inr (4, [.ref a1, .int (nI (z_M_addOwn (z_M_one (z_M_addOwn (z_M_one (z_M_addOwn (z_M_add (z_M_add xs 456901681454) 465491093294) 11) 36) (t - 1)) 36) t).length), .ref a2, .int n2, .ref a3, .ref a4, .int n3])), (a1, .inl (gI g, 200, .inl md_68))] H := hP
            have hD : va_D A [(h0, .inr (4, [.ref a1, .int (nI (z_M_addOwn (z_M_one (z_M_addOwn (z_M_one (z_M_addOwn (z_M_add (z_M_add xs 456901681454) 465491093294) 11) 36) (t - 1)) 36) t).length), .ref a2, .int n2, .ref a3, .ref a4, .int n3])), (a1, .inl (gI g, 200, .inl md_68))] := hD
            have e : z_M_addName xs t = (z_M_addOwn (z_M_one (z_M_addOwn (z_M_one (z_M_addOwn (z_M_add (z_M_add xs 456901681454) 465491093294) 11) 36) (t - 1)) 36) t) := by rw [z_M_addName, if_pos c_1, if_neg c_6, if_neg c_42, if_pos c_54, if_neg c_66]
            exact ret_v hx hb hr hlk (hP.sub (ws' := [(h0, .inr (4, [.ref a1, .int (nI (z_M_addOwn (z_M_one (z_M_addOwn (z_M_one (z_M_addOwn (z_M_add (z_M_add xs 456901681454) 465491093294) 11) 36) (t - 1)) 36) t).length), .ref a2, .int n2, .ref a3, .ref a4, .int n3])), (a1, .inl (gI g, 200, .inl md_68))]) [0, 1] rfl) (hD.sub (ws' := [(h0, .inr (4, [.ref a1, .int (nI (z_M_addOwn (z_M_one (z_M_addOwn (z_M_one (z_M_addOwn (z_M_add (z_M_add xs 456901681454) 465491093294) 11) 36) (t - 1)) 36) t).length), .ref a2, .int n2, .ref a3, .ref a4, .int n3])), (a1, .inl (gI g, 200, .inl md_68))]) [0, 1] rfl rfl) hS ⟨md_68, by rw [e], by rw [e]; exact hm_68, by rw [e]; omega, by rw [e]; omega⟩ (by first | exact Nat.le_of_ble_eq_true rfl | (dsimp only; omega) | omega) (by first | exact Nat.le_of_ble_eq_true rfl | (dsimp only; omega) | omega) d_M_addName_86
          · skip
            refine lv_aload_n hx hb d_M_addName_75 rfl (lv_at hl 0 rfl) ?_
            refine lv_bipush (v := 49) hx hb d_M_addName_76 (by decide) ?_
            refine go_v (wr := []) (run_V hF (c_M_one g l _ h0 a1 a2 a3 a4 n2 n3 (z_M_one (z_M_addOwn (z_M_one (z_M_addOwn (z_M_add (z_M_add xs 456901681454) 465491093294) 11) 36) (t - 1)) 36) md_65 hm_65 49 (by omega)) k_M_one j_M_79 se_M_M_one (va_recv hK hP (ci := 4) (q0 := 0) rfl rfl) (cw_down G hP hD hS hA [0, 1] rfl rfl) ⟨Nat.le_of_ble_eq_true rfl, Nat.le_of_ble_eq_true rfl⟩ rfl hl.1 (Nat.le_of_ble_eq_true rfl) d_M_addName_78 ⟨(by first | exact Nat.le_of_ble_eq_true rfl | (dsimp only; omega) | omega), (by first | exact Nat.le_of_ble_eq_true rfl | (dsimp only; omega) | omega)⟩) hP hD hS hA [0, 1] [] rfl rfl rfl (by decide) (fun w1 H locs hp hP hD hS => ?_)
            obtain ⟨md_70, rfl, hm_70, hn_70, hn_70b⟩ := hp
            have hP : va_P (gD g) classes [(h0, .inr (4, [.ref a1, .int (nI (z_M_one (z_M_one (z_M_addOwn (z_M_one (z_M_addOwn (z_M_add (z_M_add xs 456901681454) 465491093294) 11) 36) (t - 1)) 36) 49).length), .ref a2, .int n2, .ref a3, .ref a4, .int n3])), (a1, .inl (gI g, 200, .inl md_70))] H := hP
            have hD : va_D A [(h0, .inr (4, [.ref a1, .int (nI (z_M_one (z_M_one (z_M_addOwn (z_M_one (z_M_addOwn (z_M_add (z_M_add xs 456901681454) 465491093294) 11) 36) (t - 1)) 36) 49).length), .ref a2, .int n2, .ref a3, .ref a4, .int n3])), (a1, .inl (gI g, 200, .inl md_70))] := hD
            refine lv_aload_n hx hb d_M_addName_81 rfl (lv_at hl 0 rfl) ?_
            refine lv_iload_n hx hb d_M_addName_82 rfl (lv_at hl 1 rfl) ?_
            refine go_v (wr := []) (run_V hF (c_M_addOwn g l _ h0 a1 a2 a3 a4 n2 n3 (z_M_one (z_M_one (z_M_addOwn (z_M_one (z_M_addOwn (z_M_add (z_M_add xs 456901681454) 465491093294) 11) 36) (t - 1)) 36) 49) md_70 hm_70 t (by omega)) k_M_addOwn j_M_99 se_M_M_addOwn (va_recv hK hP (ci := 4) (q0 := 0) rfl rfl) (cw_down G hP hD hS hA [0, 1] rfl rfl) ⟨Nat.le_of_ble_eq_true rfl, Nat.le_of_ble_eq_true rfl⟩ rfl hl.1 (Nat.le_of_ble_eq_true rfl) d_M_addName_83 ⟨(by first | exact Nat.le_of_ble_eq_true rfl | (dsimp only; omega) | omega), (by first | exact Nat.le_of_ble_eq_true rfl | (dsimp only; omega) | omega)⟩) hP hD hS hA [0, 1] [] rfl rfl rfl (by decide) (fun w1 H locs hp hP hD hS => ?_)
            obtain ⟨md_72, rfl, hm_72, hn_72, hn_72b⟩ := hp
            have hP : va_P (gD g) classes [(h0, .inr (4, [.ref a1, .int (nI (z_M_addOwn (z_M_one (z_M_one (z_M_addOwn (z_M_one (z_M_addOwn (z_M_add (z_M_add xs 456901681454) 465491093294) 11) 36) (t - 1)) 36) 49) t).length), .ref a2, .int n2, .ref a3, .ref a4, .int n3])), (a1, .inl (gI g, 200, .inl md_72))] H := hP
            have hD : va_D A [(h0, .inr (4, [.ref a1, .int (nI (z_M_addOwn (z_M_one (z_M_one (z_M_addOwn (z_M_one (z_M_addOwn (z_M_add (z_M_add xs 456901681454) 465491093294) 11) 36) (t - 1)) 36) 49) t).length), .ref a2, .int n2, .ref a3, .ref a4, .int n3])), (a1, .inl (gI g, 200, .inl md_72))] := hD
            have e : z_M_addName xs t = (z_M_addOwn (z_M_one (z_M_one (z_M_addOwn (z_M_one (z_M_addOwn (z_M_add (z_M_add xs 456901681454) 465491093294) 11) 36) (t - 1)) 36) 49) t) := by rw [z_M_addName, if_pos c_1, if_neg c_6, if_neg c_42, if_pos c_54, if_pos c_66]
            exact ret_v hx hb hr hlk (hP.sub (ws' := [(h0, .inr (4, [.ref a1, .int (nI (z_M_addOwn (z_M_one (z_M_one (z_M_addOwn (z_M_one (z_M_addOwn (z_M_add (z_M_add xs 456901681454) 465491093294) 11) 36) (t - 1)) 36) 49) t).length), .ref a2, .int n2, .ref a3, .ref a4, .int n3])), (a1, .inl (gI g, 200, .inl md_72))]) [0, 1] rfl) (hD.sub (ws' := [(h0, .inr (4, [.ref a1, .int (nI (z_M_addOwn (z_M_one (z_M_one (z_M_addOwn (z_M_one (z_M_addOwn (z_M_add (z_M_add xs 456901681454) 465491093294) 11) 36) (t - 1)) 36) 49) t).length), .ref a2, .int n2, .ref a3, .ref a4, .int n3])), (a1, .inl (gI g, 200, .inl md_72))]) [0, 1] rfl rfl) hS ⟨md_72, by rw [e], by rw [e]; exact hm_72, by rw [e]; omega, by rw [e]; omega⟩ (by first | exact Nat.le_of_ble_eq_true rfl | (dsimp only; omega) | omega) (by first | exact Nat.le_of_ble_eq_true rfl | (dsimp only; omega) | omega) d_M_addName_86
  · skip
    refine lv_iload_n hx hb d_M_addName_6 rfl (lv_at hl 1 rfl) ?_
    refine lv_bipush (v := 10) hx hb d_M_addName_7 (by decide) ?_
    refine lv_icmp_ne (tgt := 26) hx hb d_M_addName_9 (by decide) (fun c_73 => ?_) (fun c_73 => ?_)
    · skip
      refine lv_iload_n hx hb d_M_addName_26 rfl (lv_at hl 1 rfl) ?_
      refine lv_bipush (v := 11) hx hb d_M_addName_27 (by decide) ?_
      refine lv_icmp_le (tgt := 44) hx hb d_M_addName_29 (by decide) (fun c_74 => ?_) (fun c_74 => ?_)
      · skip
        refine lv_iload_n hx hb d_M_addName_44 rfl (lv_at hl 1 rfl) ?_
        refine lv_bipush (v := 17) hx hb d_M_addName_45 (by decide) ?_
        refine lv_icmp_eq (tgt := 56) hx hb d_M_addName_47 (by decide) (fun c_75 => ?_) (fun c_75 => ?_)
        · skip
          refine lv_aload_n hx hb d_M_addName_56 rfl (lv_at hl 0 rfl) ?_
          refine lv_iload_n hx hb d_M_addName_57 rfl (lv_at hl 1 rfl) ?_
          refine lv_iconst (v := 1) hx hb d_M_addName_58 (by decide) ?_
          refine lv_isub hx hb d_M_addName_59 ?_
          refine go_v (wr := []) (run_V hF (c_M_addOwn g l _ h0 a1 a2 a3 a4 n2 n3 xs md hm (t - 1) (by omega)) k_M_addOwn j_M_99 se_M_M_addOwn (va_recv hK hP (ci := 4) (q0 := 0) rfl rfl) (cw_down G hP hD hS hA [0, 1] rfl rfl) ⟨Nat.le_of_ble_eq_true rfl, Nat.le_of_ble_eq_true rfl⟩ rfl hl.1 (Nat.le_of_ble_eq_true rfl) d_M_addName_60 ⟨(by first | exact Nat.le_of_ble_eq_true rfl | (dsimp only; omega) | omega), (by first | exact Nat.le_of_ble_eq_true rfl | (dsimp only; omega) | omega)⟩) hP hD hS hA [0, 1] [] rfl rfl rfl (by decide) (fun w1 H locs hp hP hD hS => ?_)
          obtain ⟨md_77, rfl, hm_77, hn_77, hn_77b⟩ := hp
          have hP : va_P (gD g) classes [(h0, .inr (4, [.ref a1, .int (nI (z_M_addOwn xs (t - 1)).length), .ref a2, .int n2, .ref a3, .ref a4, .int n3])), (a1, .inl (gI g, 200, .inl md_77))] H := hP
          have hD : va_D A [(h0, .inr (4, [.ref a1, .int (nI (z_M_addOwn xs (t - 1)).length), .ref a2, .int n2, .ref a3, .ref a4, .int n3])), (a1, .inl (gI g, 200, .inl md_77))] := hD
          refine lv_aload_n hx hb d_M_addName_63 rfl (lv_at hl 0 rfl) ?_
          refine lv_bipush (v := 36) hx hb d_M_addName_64 (by decide) ?_
          refine go_v (wr := []) (run_V hF (c_M_one g l _ h0 a1 a2 a3 a4 n2 n3 (z_M_addOwn xs (t - 1)) md_77 hm_77 36 (by omega)) k_M_one j_M_79 se_M_M_one (va_recv hK hP (ci := 4) (q0 := 0) rfl rfl) (cw_down G hP hD hS hA [0, 1] rfl rfl) ⟨Nat.le_of_ble_eq_true rfl, Nat.le_of_ble_eq_true rfl⟩ rfl hl.1 (Nat.le_of_ble_eq_true rfl) d_M_addName_66 ⟨(by first | exact Nat.le_of_ble_eq_true rfl | (dsimp only; omega) | omega), (by first | exact Nat.le_of_ble_eq_true rfl | (dsimp only; omega) | omega)⟩) hP hD hS hA [0, 1] [] rfl rfl rfl (by decide) (fun w1 H locs hp hP hD hS => ?_)
          obtain ⟨md_79, rfl, hm_79, hn_79, hn_79b⟩ := hp
          have hP : va_P (gD g) classes [(h0, .inr (4, [.ref a1, .int (nI (z_M_one (z_M_addOwn xs (t - 1)) 36).length), .ref a2, .int n2, .ref a3, .ref a4, .int n3])), (a1, .inl (gI g, 200, .inl md_79))] H := hP
          have hD : va_D A [(h0, .inr (4, [.ref a1, .int (nI (z_M_one (z_M_addOwn xs (t - 1)) 36).length), .ref a2, .int n2, .ref a3, .ref a4, .int n3])), (a1, .inl (gI g, 200, .inl md_79))] := hD
          refine lv_iload_n hx hb d_M_addName_69 rfl (lv_at hl 1 rfl) ?_
          refine lv_bipush (v := 23) hx hb d_M_addName_70 (by decide) ?_
          refine lv_icmp_ne (tgt := 81) hx hb d_M_addName_72 (by decide) (fun c_80 => ?_) (fun c_80 => ?_)
          · skip
            refine lv_aload_n hx hb d_M_addName_81 rfl (lv_at hl 0 rfl) ?_
            refine lv_iload_n hx hb d_M_addName_82 rfl (lv_at hl 1 rfl) ?_
            refine go_v (wr := []) (run_V hF (c_M_addOwn g l _ h0 a1 a2 a3 a4 n2 n3 (z_M_one (z_M_addOwn xs (t - 1)) 36) md_79 hm_79 t (by omega)) k_M_addOwn j_M_99 se_M_M_addOwn (va_recv hK hP (ci := 4) (q0 := 0) rfl rfl) (cw_down G hP hD hS hA [0, 1] rfl rfl) ⟨Nat.le_of_ble_eq_true rfl, Nat.le_of_ble_eq_true rfl⟩ rfl hl.1 (Nat.le_of_ble_eq_true rfl) d_M_addName_83 ⟨(by first | exact Nat.le_of_ble_eq_true rfl | (dsimp only; omega) | omega), (by first | exact Nat.le_of_ble_eq_true rfl | (dsimp only; omega) | omega)⟩) hP hD hS hA [0, 1] [] rfl rfl rfl (by decide) (fun w1 H locs hp hP hD hS => ?_)
            obtain ⟨md_82, rfl, hm_82, hn_82, hn_82b⟩ := hp
            have hP : va_P (gD g) classes [(h0, .inr (4, [.ref a1, .int (nI (z_M_addOwn (z_M_one (z_M_addOwn xs (t - 1)) 36) t).length), .ref a2, .int n2, .ref a3, .ref a4, .int n3])), (a1, .inl (gI g, 200, .inl md_82))] H := hP
            have hD : va_D A [(h0, .inr (4, [.ref a1, .int (nI (z_M_addOwn (z_M_one (z_M_addOwn xs (t - 1)) 36) t).length), .ref a2, .int n2, .ref a3, .ref a4, .int n3])), (a1, .inl (gI g, 200, .inl md_82))] := hD
            have e : z_M_addName xs t = (z_M_addOwn (z_M_one (z_M_addOwn xs (t - 1)) 36) t) := by rw [z_M_addName, if_neg c_1, if_neg c_73, if_pos c_74, if_pos c_75, if_neg c_80]
            exact ret_v hx hb hr hlk (hP.sub (ws' := [(h0, .inr (4, [.ref a1, .int (nI (z_M_addOwn (z_M_one (z_M_addOwn xs (t - 1)) 36) t).length), .ref a2, .int n2, .ref a3, .ref a4, .int n3])), (a1, .inl (gI g, 200, .inl md_82))]) [0, 1] rfl) (hD.sub (ws' := [(h0, .inr (4, [.ref a1, .int (nI (z_M_addOwn (z_M_one (z_M_addOwn xs (t - 1)) 36) t).length), .ref a2, .int n2, .ref a3, .ref a4, .int n3])), (a1, .inl (gI g, 200, .inl md_82))]) [0, 1] rfl rfl) hS ⟨md_82, by rw [e], by rw [e]; exact hm_82, by rw [e]; omega, by rw [e]; omega⟩ (by first | exact Nat.le_of_ble_eq_true rfl | (dsimp only; omega) | omega) (by first | exact Nat.le_of_ble_eq_true rfl | (dsimp only; omega) | omega) d_M_addName_86
          · skip
            refine lv_aload_n hx hb d_M_addName_75 rfl (lv_at hl 0 rfl) ?_
            refine lv_bipush (v := 49) hx hb d_M_addName_76 (by decide) ?_
            refine go_v (wr := []) (run_V hF (c_M_one g l _ h0 a1 a2 a3 a4 n2 n3 (z_M_one (z_M_addOwn xs (t - 1)) 36) md_79 hm_79 49 (by omega)) k_M_one j_M_79 se_M_M_one (va_recv hK hP (ci := 4) (q0 := 0) rfl rfl) (cw_down G hP hD hS hA [0, 1] rfl rfl) ⟨Nat.le_of_ble_eq_true rfl, Nat.le_of_ble_eq_true rfl⟩ rfl hl.1 (Nat.le_of_ble_eq_true rfl) d_M_addName_78 ⟨(by first | exact Nat.le_of_ble_eq_true rfl | (dsimp only; omega) | omega), (by first | exact Nat.le_of_ble_eq_true rfl | (dsimp only; omega) | omega)⟩) hP hD hS hA [0, 1] [] rfl rfl rfl (by decide) (fun w1 H locs hp hP hD hS => ?_)
            obtain ⟨md_84, rfl, hm_84, hn_84, hn_84b⟩ := hp
            have hP : va_P (gD g) classes [(h0, .inr (4, [.ref a1, .int (nI (z_M_one (z_M_one (z_M_addOwn xs (t - 1)) 36) 49).length), .ref a2, .int n2, .ref a3, .ref a4, .int n3])), (a1, .inl (gI g, 200, .inl md_84))] H := hP
            have hD : va_D A [(h0, .inr (4, [.ref a1, .int (nI (z_M_one (z_M_one (z_M_addOwn xs (t - 1)) 36) 49).length), .ref a2, .int n2, .ref a3, .ref a4, .int n3])), (a1, .inl (gI g, 200, .inl md_84))] := hD
            refine lv_aload_n hx hb d_M_addName_81 rfl (lv_at hl 0 rfl) ?_
            refine lv_iload_n hx hb d_M_addName_82 rfl (lv_at hl 1 rfl) ?_
            refine go_v (wr := []) (run_V hF (c_M_addOwn g l _ h0 a1 a2 a3 a4 n2 n3 (z_M_one (z_M_one (z_M_addOwn xs (t - 1)) 36) 49) md_84 hm_84 t (by omega)) k_M_addOwn j_M_99 se_M_M_addOwn (va_recv hK hP (ci := 4) (q0 := 0) rfl rfl) (cw_down G hP hD hS hA [0, 1] rfl rfl) ⟨Nat.le_of_ble_eq_true rfl, Nat.le_of_ble_eq_true rfl⟩ rfl hl.1 (Nat.le_of_ble_eq_true rfl) d_M_addName_83 ⟨(by first | exact Nat.le_of_ble_eq_true rfl | (dsimp only; omega) | omega), (by first | exact Nat.le_of_ble_eq_true rfl | (dsimp only; omega) | omega)⟩) hP hD hS hA [0, 1] [] rfl rfl rfl (by decide) (fun w1 H locs hp hP hD hS => ?_)
            obtain ⟨md_86, rfl, hm_86, hn_86, hn_86b⟩ := hp
            have hP : va_P (gD g) classes [(h0, .inr (4, [.ref a1, .int (nI (z_M_addOwn (z_M_one (z_M_one (z_M_addOwn xs (t - 1)) 36) 49) t).length), .ref a2, .int n2, .ref a3, .ref a4, .int n3])), (a1, .inl (gI g, 200, .inl md_86))] H := hP
            have hD : va_D A [(h0, .inr (4, [.ref a1, .int (nI (z_M_addOwn (z_M_one (z_M_one (z_M_addOwn xs (t - 1)) 36) 49) t).length), .ref a2, .int n2, .ref a3, .ref a4, .int n3])), (a1, .inl (gI g, 200, .inl md_86))] := hD
            have e : z_M_addName xs t = (z_M_addOwn (z_M_one (z_M_one (z_M_addOwn xs (t - 1)) 36) 49) t) := by rw [z_M_addName, if_neg c_1, if_neg c_73, if_pos c_74, if_pos c_75, if_pos c_80]
            exact ret_v hx hb hr hlk (hP.sub (ws' := [(h0, .inr (4, [.ref a1, .int (nI (z_M_addOwn (z_M_one (z_M_one (z_M_addOwn xs (t - 1)) 36) 49) t).length), .ref a2, .int n2, .ref a3, .ref a4, .int n3])), (a1, .inl (gI g, 200, .inl md_86))]) [0, 1] rfl) (hD.sub (ws' := [(h0, .inr (4, [.ref a1, .int (nI (z_M_addOwn (z_M_one (z_M_one (z_M_addOwn xs (t - 1)) 36) 49) t).length), .ref a2, .int n2, .ref a3, .ref a4, .int n3])), (a1, .inl (gI g, 200, .inl md_86))]) [0, 1] rfl rfl) hS ⟨md_86, by rw [e], by rw [e]; exact hm_86, by rw [e]; omega, by rw [e]; omega⟩ (by first | exact Nat.le_of_ble_eq_true rfl | (dsimp only; omega) | omega) (by first | exact Nat.le_of_ble_eq_true rfl | (dsimp only; omega) | omega) d_M_addName_86
        · skip
          refine lv_iload_n hx hb d_M_addName_50 rfl (lv_at hl 1 rfl) ?_
          refine lv_bipush (v := 19) hx hb d_M_addName_51 (by decide) ?_
          refine lv_icmp_ne (tgt := 69) hx hb d_M_addName_53 (by decide) (fun c_87 => ?_) (fun c_87 => ?_)
          · skip
            refine lv_iload_n hx hb d_M_addName_69 rfl (lv_at hl 1 rfl) ?_
            refine lv_bipush (v := 23) hx hb d_M_addName_70 (by decide) ?_
            refine lv_icmp_ne (tgt := 81) hx hb d_M_addName_72 (by decide) (fun c_88 => ?_) (fun c_88 => ?_)
            · skip
              refine lv_aload_n hx hb d_M_addName_81 rfl (lv_at hl 0 rfl) ?_
              refine lv_iload_n hx hb d_M_addName_82 rfl (lv_at hl 1 rfl) ?_
              refine go_v (wr := []) (run_V hF (c_M_addOwn g l _ h0 a1 a2 a3 a4 n2 n3 xs md hm t (by omega)) k_M_addOwn j_M_99 se_M_M_addOwn (va_recv hK hP (ci := 4) (q0 := 0) rfl rfl) (cw_down G hP hD hS hA [0, 1] rfl rfl) ⟨Nat.le_of_ble_eq_true rfl, Nat.le_of_ble_eq_true rfl⟩ rfl hl.1 (Nat.le_of_ble_eq_true rfl) d_M_addName_83 ⟨(by first | exact Nat.le_of_ble_eq_true rfl | (dsimp only; omega) | omega), (by first | exact Nat.le_of_ble_eq_true rfl | (dsimp only; omega) | omega)⟩) hP hD hS hA [0, 1] [] rfl rfl rfl (by decide) (fun w1 H locs hp hP hD hS => ?_)
              obtain ⟨md_90, rfl, hm_90, hn_90, hn_90b⟩ := hp
              have hP : va_P (gD g) classes [(h0, .inr (4, [.ref a1, .int (nI (z_M_addOwn xs t).length), .ref a2, .int n2, .ref a3, .ref a4, .int n3])), (a1, .inl (gI g, 200, .inl md_90))] H := hP
              have hD : va_D A [(h0, .inr (4, [.ref a1, .int (nI (z_M_addOwn xs t).length), .ref a2, .int n2, .ref a3, .ref a4, .int n3])), (a1, .inl (gI g, 200, .inl md_90))] := hD
              have e : z_M_addName xs t = (z_M_addOwn xs t) := by rw [z_M_addName, if_neg c_1, if_neg c_73, if_pos c_74, if_neg c_75, if_neg c_87, if_neg c_88]
              exact ret_v hx hb hr hlk (hP.sub (ws' := [(h0, .inr (4, [.ref a1, .int (nI (z_M_addOwn xs t).length), .ref a2, .int n2, .ref a3, .ref a4, .int n3])), (a1, .inl (gI g, 200, .inl md_90))]) [0, 1] rfl) (hD.sub (ws' := [(h0, .inr (4, [.ref a1, .int (nI (z_M_addOwn xs t).length), .ref a2, .int n2, .ref a3, .ref a4, .int n3])), (a1, .inl (gI g, 200, .inl md_90))]) [0, 1] rfl rfl) hS ⟨md_90, by rw [e], by rw [e]; exact hm_90, by rw [e]; omega, by rw [e]; omega⟩ (by first | exact Nat.le_of_ble_eq_true rfl | (dsimp only; omega) | omega) (by first | exact Nat.le_of_ble_eq_true rfl | (dsimp only; omega) | omega) d_M_addName_86
            · skip
              refine lv_aload_n hx hb d_M_addName_75 rfl (lv_at hl 0 rfl) ?_
              refine lv_bipush (v := 49) hx hb d_M_addName_76 (by decide) ?_
              refine go_v (wr := []) (run_V hF (c_M_one g l _ h0 a1 a2 a3 a4 n2 n3 xs md hm 49 (by omega)) k_M_one j_M_79 se_M_M_one (va_recv hK hP (ci := 4) (q0 := 0) rfl rfl) (cw_down G hP hD hS hA [0, 1] rfl rfl) ⟨Nat.le_of_ble_eq_true rfl, Nat.le_of_ble_eq_true rfl⟩ rfl hl.1 (Nat.le_of_ble_eq_true rfl) d_M_addName_78 ⟨(by first | exact Nat.le_of_ble_eq_true rfl | (dsimp only; omega) | omega), (by first | exact Nat.le_of_ble_eq_true rfl | (dsimp only; omega) | omega)⟩) hP hD hS hA [0, 1] [] rfl rfl rfl (by decide) (fun w1 H locs hp hP hD hS => ?_)
              obtain ⟨md_92, rfl, hm_92, hn_92, hn_92b⟩ := hp
              have hP : va_P (gD g) classes [(h0, .inr (4, [.ref a1, .int (nI (z_M_one xs 49).length), .ref a2, .int n2, .ref a3, .ref a4, .int n3])), (a1, .inl (gI g, 200, .inl md_92))] H := hP
              have hD : va_D A [(h0, .inr (4, [.ref a1, .int (nI (z_M_one xs 49).length), .ref a2, .int n2, .ref a3, .ref a4, .int n3])), (a1, .inl (gI g, 200, .inl md_92))] := hD
              refine lv_aload_n hx hb d_M_addName_81 rfl (lv_at hl 0 rfl) ?_
              refine lv_iload_n hx hb d_M_addName_82 rfl (lv_at hl 1 rfl) ?_
              refine go_v (wr := []) (run_V hF (c_M_addOwn g l _ h0 a1 a2 a3 a4 n2 n3 (z_M_one xs 49) md_92 hm_92 t (by omega)) k_M_addOwn j_M_99 se_M_M_addOwn (va_recv hK hP (ci := 4) (q0 := 0) rfl rfl) (cw_down G hP hD hS hA [0, 1] rfl rfl) ⟨Nat.le_of_ble_eq_true rfl, Nat.le_of_ble_eq_true rfl⟩ rfl hl.1 (Nat.le_of_ble_eq_true rfl) d_M_addName_83 ⟨(by first | exact Nat.le_of_ble_eq_true rfl | (dsimp only; omega) | omega), (by first | exact Nat.le_of_ble_eq_true rfl | (dsimp only; omega) | omega)⟩) hP hD hS hA [0, 1] [] rfl rfl rfl (by decide) (fun w1 H locs hp hP hD hS => ?_)
              obtain ⟨md_94, rfl, hm_94, hn_94, hn_94b⟩ := hp
              have hP : va_P (gD g) classes [(h0, .inr (4, [.ref a1, .int (nI (z_M_addOwn (z_M_one xs 49) t).length), .ref a2, .int n2, .ref a3, .ref a4, .int n3])), (a1, .inl (gI g, 200, .inl md_94))] H := hP
              have hD : va_D A [(h0, .inr (4, [.ref a1, .int (nI (z_M_addOwn (z_M_one xs 49) t).length), .ref a2, .int n2, .ref a3, .ref a4, .int n3])), (a1, .inl (gI g, 200, .inl md_94))] := hD
              have e : z_M_addName xs t = (z_M_addOwn (z_M_one xs 49) t) := by rw [z_M_addName, if_neg c_1, if_neg c_73, if_pos c_74, if_neg c_75, if_neg c_87, if_pos c_88]
              exact ret_v hx hb hr hlk (hP.sub (ws' := [(h0, .inr (4, [.ref a1, .int (nI (z_M_addOwn (z_M_one xs 49) t).length), .ref a2, .int n2, .ref a3, .ref a4, .int n3])), (a1, .inl (gI g, 200, .inl md_94))]) [0, 1] rfl) (hD.sub (ws' := [(h0, .inr (4, [.ref a1, .int (nI (z_M_addOwn (z_M_one xs 49) t).length), .ref a2, .int n2, .ref a3, .ref a4, .int n3])), (a1, .inl (gI g, 200, .inl md_94))]) [0, 1] rfl rfl) hS ⟨md_94, by rw [e], by rw [e]; exact hm_94, by rw [e]; omega, by rw [e]; omega⟩ (by first | exact Nat.le_of_ble_eq_true rfl | (dsimp only; omega) | omega) (by first | exact Nat.le_of_ble_eq_true rfl | (dsimp only; omega) | omega) d_M_addName_86
          · skip
            refine lv_aload_n hx hb d_M_addName_56 rfl (lv_at hl 0 rfl) ?_
            refine lv_iload_n hx hb d_M_addName_57 rfl (lv_at hl 1 rfl) ?_
            refine lv_iconst (v := 1) hx hb d_M_addName_58 (by decide) ?_
            refine lv_isub hx hb d_M_addName_59 ?_
            refine go_v (wr := []) (run_V hF (c_M_addOwn g l _ h0 a1 a2 a3 a4 n2 n3 xs md hm (t - 1) (by omega)) k_M_addOwn j_M_99 se_M_M_addOwn (va_recv hK hP (ci := 4) (q0 := 0) rfl rfl) (cw_down G hP hD hS hA [0, 1] rfl rfl) ⟨Nat.le_of_ble_eq_true rfl, Nat.le_of_ble_eq_true rfl⟩ rfl hl.1 (Nat.le_of_ble_eq_true rfl) d_M_addName_60 ⟨(by first | exact Nat.le_of_ble_eq_true rfl | (dsimp only; omega) | omega), (by first | exact Nat.le_of_ble_eq_true rfl | (dsimp only; omega) | omega)⟩) hP hD hS hA [0, 1] [] rfl rfl rfl (by decide) (fun w1 H locs hp hP hD hS => ?_)
            obtain ⟨md_96, rfl, hm_96, hn_96, hn_96b⟩ := hp
            have hP : va_P (gD g) classes [(h0, .inr (4, [.ref a1, .int (nI (z_M_addOwn xs (t - 1)).length), .ref a2, .int n2, .ref a3, .ref a4, .int n3])), (a1, .inl (gI g, 200, .inl md_96))] H := hP
            have hD : va_D A [(h0, .inr (4, [.ref a1, .int (nI (z_M_addOwn xs (t - 1)).length), .ref a2, .int n2, .ref a3, .ref a4, .int n3])), (a1, .inl (gI g, 200, .inl md_96))] := hD
            refine lv_aload_n hx hb d_M_addName_63 rfl (lv_at hl 0 rfl) ?_
            refine lv_bipush (v := 36) hx hb d_M_addName_64 (by decide) ?_
            refine go_v (wr := []) (run_V hF (c_M_one g l _ h0 a1 a2 a3 a4 n2 n3 (z_M_addOwn xs (t - 1)) md_96 hm_96 36 (by omega)) k_M_one j_M_79 se_M_M_one (va_recv hK hP (ci := 4) (q0 := 0) rfl rfl) (cw_down G hP hD hS hA [0, 1] rfl rfl) ⟨Nat.le_of_ble_eq_true rfl, Nat.le_of_ble_eq_true rfl⟩ rfl hl.1 (Nat.le_of_ble_eq_true rfl) d_M_addName_66 ⟨(by first | exact Nat.le_of_ble_eq_true rfl | (dsimp only; omega) | omega), (by first | exact Nat.le_of_ble_eq_true rfl | (dsimp only; omega) | omega)⟩) hP hD hS hA [0, 1] [] rfl rfl rfl (by decide) (fun w1 H locs hp hP hD hS => ?_)
            obtain ⟨md_98, rfl, hm_98, hn_98, hn_98b⟩ := hp
            have hP : va_P (gD g) classes [(h0, .inr (4, [.ref a1, .int (nI (z_M_one (z_M_addOwn xs (t - 1)) 36).length), .ref a2, .int n2, .ref a3, .ref a4, .int n3])), (a1, .inl (gI g, 200, .inl md_98))] H := hP
            have hD : va_D A [(h0, .inr (4, [.ref a1, .int (nI (z_M_one (z_M_addOwn xs (t - 1)) 36).length), .ref a2, .int n2, .ref a3, .ref a4, .int n3])), (a1, .inl (gI g, 200, .inl md_98))] := hD
            refine lv_iload_n hx hb d_M_addName_69 rfl (lv_at hl 1 rfl) ?_
            refine lv_bipush (v := 23) hx hb d_M_addName_70 (by decide) ?_
            refine lv_icmp_ne (tgt := 81) hx hb d_M_addName_72 (by decide) (fun c_99 => ?_) (fun c_99 => ?_)
            · skip
              refine lv_aload_n hx hb d_M_addName_81 rfl (lv_at hl 0 rfl) ?_
              refine lv_iload_n hx hb d_M_addName_82 rfl (lv_at hl 1 rfl) ?_
              refine go_v (wr := []) (run_V hF (c_M_addOwn g l _ h0 a1 a2 a3 a4 n2 n3 (z_M_one (z_M_addOwn xs (t - 1)) 36) md_98 hm_98 t (by omega)) k_M_addOwn j_M_99 se_M_M_addOwn (va_recv hK hP (ci := 4) (q0 := 0) rfl rfl) (cw_down G hP hD hS hA [0, 1] rfl rfl) ⟨Nat.le_of_ble_eq_true rfl, Nat.le_of_ble_eq_true rfl⟩ rfl hl.1 (Nat.le_of_ble_eq_true rfl) d_M_addName_83 ⟨(by first | exact Nat.le_of_ble_eq_true rfl | (dsimp only; omega) | omega), (by first | exact Nat.le_of_ble_eq_true rfl | (dsimp only; omega) | omega)⟩) hP hD hS hA [0, 1] [] rfl rfl rfl (by decide) (fun w1 H locs hp hP hD hS => ?_)
              obtain ⟨md_101, rfl, hm_101, hn_101, hn_101b⟩ := hp
              have hP : va_P (gD g) classes [(h0, .inr (4, [.ref a1, .int (nI (z_M_addOwn (z_M_one (z_M_addOwn xs (t - 1)) 36) t).length), .ref a2, .int n2, .ref a3, .ref a4, .int n3])), (a1, .inl (gI g, 200, .inl md_101))] H := hP
              have hD : va_D A [(h0, .inr (4, [.ref a1, .int (nI (z_M_addOwn (z_M_one (z_M_addOwn xs (t - 1)) 36) t).length), .ref a2, .int n2, .ref a3, .ref a4, .int n3])), (a1, .inl (gI g, 200, .inl md_101))] := hD
              have e : z_M_addName xs t = (z_M_addOwn (z_M_one (z_M_addOwn xs (t - 1)) 36) t) := by rw [z_M_addName, if_neg c_1, if_neg c_73, if_pos c_74, if_neg c_75, if_pos c_87, if_neg c_99]
              exact ret_v hx hb hr hlk (hP.sub (ws' := [(h0, .inr (4, [.ref a1, .int (nI (z_M_addOwn (z_M_one (z_M_addOwn xs (t - 1)) 36) t).length), .ref a2, .int n2, .ref a3, .ref a4, .int n3])), (a1, .inl (gI g, 200, .inl md_101))]) [0, 1] rfl) (hD.sub (ws' := [(h0, .inr (4, [.ref a1, .int (nI (z_M_addOwn (z_M_one (z_M_addOwn xs (t - 1)) 36) t).length), .ref a2, .int n2, .ref a3, .ref a4, .int n3])), (a1, .inl (gI g, 200, .inl md_101))]) [0, 1] rfl rfl) hS ⟨md_101, by rw [e], by rw [e]; exact hm_101, by rw [e]; omega, by rw [e]; omega⟩ (by first | exact Nat.le_of_ble_eq_true rfl | (dsimp only; omega) | omega) (by first | exact Nat.le_of_ble_eq_true rfl | (dsimp only; omega) | omega) d_M_addName_86
            · skip
              refine lv_aload_n hx hb d_M_addName_75 rfl (lv_at hl 0 rfl) ?_
              refine lv_bipush (v := 49) hx hb d_M_addName_76 (by decide) ?_
              refine go_v (wr := []) (run_V hF (c_M_one g l _ h0 a1 a2 a3 a4 n2 n3 (z_M_one (z_M_addOwn xs (t - 1)) 36) md_98 hm_98 49 (by omega)) k_M_one j_M_79 se_M_M_one (va_recv hK hP (ci := 4) (q0 := 0) rfl rfl) (cw_down G hP hD hS hA [0, 1] rfl rfl) ⟨Nat.le_of_ble_eq_true rfl, Nat.le_of_ble_eq_true rfl⟩ rfl hl.1 (Nat.le_of_ble_eq_true rfl) d_M_addName_78 ⟨(by first | exact Nat.le_of_ble_eq_true rfl | (dsimp only; omega) | omega), (by first | exact Nat.le_of_ble_eq_true rfl | (dsimp only; omega) | omega)⟩) hP hD hS hA [0, 1] [] rfl rfl rfl (by decide) (fun w1 H locs hp hP hD hS => ?_)
              obtain ⟨md_103, rfl, hm_103, hn_103, hn_103b⟩ := hp
              have hP : va_P (gD g) classes [(h0, .inr (4, [.ref a1, .int (nI (z_M_one (z_M_one (z_M_addOwn xs (t - 1)) 36) 49).length), .ref a2, .int n2, .ref a3, .ref a4, .int n3])), (a1, .inl (gI g, 200, .inl md_103))] H := hP
              have hD : va_D A [(h0, .inr (4, [.ref a1, .int (nI (z_M_one (z_M_one (z_M_addOwn xs (t - 1)) 36) 49).length), .ref a2, .int n2, .ref a3, .ref a4, .int n3])), (a1, .inl (gI g, 200, .inl md_103))] := hD
              refine lv_aload_n hx hb d_M_addName_81 rfl (lv_at hl 0 rfl) ?_
              refine lv_iload_n hx hb d_M_addName_82 rfl (lv_at hl 1 rfl) ?_
              refine go_v (wr := []) (run_V hF (c_M_addOwn g l _ h0 a1 a2 a3 a4 n2 n3 (z_M_one (z_M_one (z_M_addOwn xs (t - 1)) 36) 49) md_103 hm_103 t (by omega)) k_M_addOwn j_M_99 se_M_M_addOwn (va_recv hK hP (ci := 4) (q0 := 0) rfl rfl) (cw_down G hP hD hS hA [0, 1] rfl rfl) ⟨Nat.le_of_ble_eq_true rfl, Nat.le_of_ble_eq_true rfl⟩ rfl hl.1 (Nat.le_of_ble_eq_true rfl) d_M_addName_83 ⟨(by first | exact Nat.le_of_ble_eq_true rfl | (dsimp only; omega) | omega), (by first | exact Nat.le_of_ble_eq_true rfl | (dsimp only; omega) | omega)⟩) hP hD hS hA [0, 1] [] rfl rfl rfl (by decide) (fun w1 H locs hp hP hD hS => ?_)
              obtain ⟨md_105, rfl, hm_105, hn_105, hn_105b⟩ := hp
              have hP : va_P (gD g) classes [(h0, .inr (4, [.ref a1, .int (nI (z_M_addOwn (z_M_one (z_M_one (z_M_addOwn xs (t - 1)) 36) 49) t).length), .ref a2, .int n2, .ref a3, .ref a4, .int n3])), (a1, .inl (gI g, 200, .inl md_105))] H := hP
              have hD : va_D A [(h0, .inr (4, [.ref a1, .int (nI (z_M_addOwn (z_M_one (z_M_one (z_M_addOwn xs (t - 1)) 36) 49) t).length), .ref a2, .int n2, .ref a3, .ref a4, .int n3])), (a1, .inl (gI g, 200, .inl md_105))] := hD
              have e : z_M_addName xs t = (z_M_addOwn (z_M_one (z_M_one (z_M_addOwn xs (t - 1)) 36) 49) t) := by rw [z_M_addName, if_neg c_1, if_neg c_73, if_pos c_74, if_neg c_75, if_pos c_87, if_pos c_99]
              exact ret_v hx hb hr hlk (hP.sub (ws' := [(h0, .inr (4, [.ref a1, .int (nI (z_M_addOwn (z_M_one (z_M_one (z_M_addOwn xs (t - 1)) 36) 49) t).length), .ref a2, .int n2, .ref a3, .ref a4, .int n3])), (a1, .inl (gI g, 200, .inl md_105))]) [0, 1] rfl) (hD.sub (ws' := [(h0, .inr (4, [.ref a1, .int (nI (z_M_addOwn (z_M_one (z_M_one (z_M_addOwn xs (t - 1)) 36) 49) t).length), .ref a2, .int n2, .ref a3, .ref a4, .int n3])), (a1, .inl (gI g, 200, .inl md_105))]) [0, 1] rfl rfl) hS ⟨md_105, by rw [e], by rw [e]; exact hm_105, by rw [e]; omega, by rw [e]; omega⟩ (by first | exact Nat.le_of_ble_eq_true rfl | (dsimp only; omega) | omega) (by first | exact Nat.le_of_ble_eq_true rfl | (dsimp only; omega) | omega) d_M_addName_86
      · skip
        refine lv_aload_n hx hb d_M_addName_32 rfl (lv_at hl 0 rfl) ?_
        refine lv_bipush (v := 11) hx hb d_M_addName_33 (by decide) ?_
        refine go_v (wr := []) (run_V hF (c_M_addOwn g l _ h0 a1 a2 a3 a4 n2 n3 xs md hm 11 (by omega)) k_M_addOwn j_M_99 se_M_M_addOwn (va_recv hK hP (ci := 4) (q0 := 0) rfl rfl) (cw_down G hP hD hS hA [0, 1] rfl rfl) ⟨Nat.le_of_ble_eq_true rfl, Nat.le_of_ble_eq_true rfl⟩ rfl hl.1 (Nat.le_of_ble_eq_true rfl) d_M_addName_35 ⟨(by first | exact Nat.le_of_ble_eq_true rfl | (dsimp only; omega) | omega), (by first | exact Nat.le_of_ble_eq_true rfl | (dsimp only; omega) | omega)⟩) hP hD hS hA [0, 1] [] rfl rfl rfl (by decide) (fun w1 H locs hp hP hD hS => ?_)
        obtain ⟨md_107, rfl, hm_107, hn_107, hn_107b⟩ := hp
        have hP : va_P (gD g) classes [(h0, .inr (4, [.ref a1, .int (nI (z_M_addOwn xs 11).length), .ref a2, .int n2, .ref a3, .ref a4, .int n3])), (a1, .inl (gI g, 200, .inl md_107))] H := hP
        have hD : va_D A [(h0, .inr (4, [.ref a1, .int (nI (z_M_addOwn xs 11).length), .ref a2, .int n2, .ref a3, .ref a4, .int n3])), (a1, .inl (gI g, 200, .inl md_107))] := hD
        refine lv_aload_n hx hb d_M_addName_38 rfl (lv_at hl 0 rfl) ?_
        refine lv_bipush (v := 36) hx hb d_M_addName_39 (by decide) ?_
        refine go_v (wr := []) (run_V hF (c_M_one g l _ h0 a1 a2 a3 a4 n2 n3 (z_M_addOwn xs 11) md_107 hm_107 36 (by omega)) k_M_one j_M_79 se_M_M_one (va_recv hK hP (ci := 4) (q0 := 0) rfl rfl) (cw_down G hP hD hS hA [0, 1] rfl rfl) ⟨Nat.le_of_ble_eq_true rfl, Nat.le_of_ble_eq_true rfl⟩ rfl hl.1 (Nat.le_of_ble_eq_true rfl) d_M_addName_41 ⟨(by first | exact Nat.le_of_ble_eq_true rfl | (dsimp only; omega) | omega), (by first | exact Nat.le_of_ble_eq_true rfl | (dsimp only; omega) | omega)⟩) hP hD hS hA [0, 1] [] rfl rfl rfl (by decide) (fun w1 H locs hp hP hD hS => ?_)
        obtain ⟨md_109, rfl, hm_109, hn_109, hn_109b⟩ := hp
        have hP : va_P (gD g) classes [(h0, .inr (4, [.ref a1, .int (nI (z_M_one (z_M_addOwn xs 11) 36).length), .ref a2, .int n2, .ref a3, .ref a4, .int n3])), (a1, .inl (gI g, 200, .inl md_109))] H := hP
        have hD : va_D A [(h0, .inr (4, [.ref a1, .int (nI (z_M_one (z_M_addOwn xs 11) 36).length), .ref a2, .int n2, .ref a3, .ref a4, .int n3])), (a1, .inl (gI g, 200, .inl md_109))] := hD
        refine lv_iload_n hx hb d_M_addName_44 rfl (lv_at hl 1 rfl) ?_
        refine lv_bipush (v := 17) hx hb d_M_addName_45 (by decide) ?_
        refine lv_icmp_eq (tgt := 56) hx hb d_M_addName_47 (by decide) (fun c_110 => ?_) (fun c_110 => ?_)
        · skip
          refine lv_aload_n hx hb d_M_addName_56 rfl (lv_at hl 0 rfl) ?_
          refine lv_iload_n hx hb d_M_addName_57 rfl (lv_at hl 1 rfl) ?_
          refine lv_iconst (v := 1) hx hb d_M_addName_58 (by decide) ?_
          refine lv_isub hx hb d_M_addName_59 ?_
          refine go_v (wr := []) (run_V hF (c_M_addOwn g l _ h0 a1 a2 a3 a4 n2 n3 (z_M_one (z_M_addOwn xs 11) 36) md_109 hm_109 (t - 1) (by omega)) k_M_addOwn j_M_99 se_M_M_addOwn (va_recv hK hP (ci := 4) (q0 := 0) rfl rfl) (cw_down G hP hD hS hA [0, 1] rfl rfl) ⟨Nat.le_of_ble_eq_true rfl, Nat.le_of_ble_eq_true rfl⟩ rfl hl.1 (Nat.le_of_ble_eq_true rfl) d_M_addName_60 ⟨(by first | exact Nat.le_of_ble_eq_true rfl | (dsimp only; omega) | omega), (by first | exact Nat.le_of_ble_eq_true rfl | (dsimp only; omega) | omega)⟩) hP hD hS hA [0, 1] [] rfl rfl rfl (by decide) (fun w1 H locs hp hP hD hS => ?_)
          obtain ⟨md_112, rfl, hm_112, hn_112, hn_112b⟩ := hp
          have hP : va_P (gD g) classes [(h0, .inr (4, [.ref a1, .int (nI (z_M_addOwn (z_M_one (z_M_addOwn xs 11) 36) (t - 1)).length), .ref a2, .int n2, .ref a3, .ref a4, .int n3])), (a1, .inl (gI g, 200, .inl md_112))] H := hP
          have hD : va_D A [(h0, .inr (4, [.ref a1, .int (nI (z_M_addOwn (z_M_one (z_M_addOwn xs 11) 36) (t - 1)).length), .ref a2, .int n2, .ref a3, .ref a4, .int n3])), (a1, .inl (gI g, 200, .inl md_112))] := hD
          refine lv_aload_n hx hb d_M_addName_63 rfl (lv_at hl 0 rfl) ?_
          refine lv_bipush (v := 36) hx hb d_M_addName_64 (by decide) ?_
          refine go_v (wr := []) (run_V hF (c_M_one g l _ h0 a1 a2 a3 a4 n2 n3 (z_M_addOwn (z_M_one (z_M_addOwn xs 11) 36) (t - 1)) md_112 hm_112 36 (by omega)) k_M_one j_M_79 se_M_M_one (va_recv hK hP (ci := 4) (q0 := 0) rfl rfl) (cw_down G hP hD hS hA [0, 1] rfl rfl) ⟨Nat.le_of_ble_eq_true rfl, Nat.le_of_ble_eq_true rfl⟩ rfl hl.1 (Nat.le_of_ble_eq_true rfl) d_M_addName_66 ⟨(by first | exact Nat.le_of_ble_eq_true rfl | (dsimp only; omega) | omega), (by first | exact Nat.le_of_ble_eq_true rfl | (dsimp only; omega) | omega)⟩) hP hD hS hA [0, 1] [] rfl rfl rfl (by decide) (fun w1 H locs hp hP hD hS => ?_)
          obtain ⟨md_114, rfl, hm_114, hn_114, hn_114b⟩ := hp
          have hP : va_P (gD g) classes [(h0, .inr (4, [.ref a1, .int (nI (z_M_one (z_M_addOwn (z_M_one (z_M_addOwn xs 11) 36) (t - 1)) 36).length), .ref a2, .int n2, .ref a3, .ref a4, .int n3])), (a1, .inl (gI g, 200, .inl md_114))] H := hP
          have hD : va_D A [(h0, .inr (4, [.ref a1, .int (nI (z_M_one (z_M_addOwn (z_M_one (z_M_addOwn xs 11) 36) (t - 1)) 36).length), .ref a2, .int n2, .ref a3, .ref a4, .int n3])), (a1, .inl (gI g, 200, .inl md_114))] := hD
          refine lv_iload_n hx hb d_M_addName_69 rfl (lv_at hl 1 rfl) ?_
          refine lv_bipush (v := 23) hx hb d_M_addName_70 (by decide) ?_
          refine lv_icmp_ne (tgt := 81) hx hb d_M_addName_72 (by decide) (fun c_115 => ?_) (fun c_115 => ?_)
          · skip
            refine lv_aload_n hx hb d_M_addName_81 rfl (lv_at hl 0 rfl) ?_
            refine lv_iload_n hx hb d_M_addName_82 rfl (lv_at hl 1 rfl) ?_
            refine go_v (wr := []) (run_V hF (c_M_addOwn g l _ h0 a1 a2 a3 a4 n2 n3 (z_M_one (z_M_addOwn (z_M_one (z_M_addOwn xs 11) 36) (t - 1)) 36) md_114 hm_114 t (by omega)) k_M_addOwn j_M_99 se_M_M_addOwn (va_recv hK hP (ci := 4) (q0 := 0) rfl rfl) (cw_down G hP hD hS hA [0, 1] rfl rfl) ⟨Nat.le_of_ble_eq_true rfl, Nat.le_of_ble_eq_true rfl⟩ rfl hl.1 (Nat.le_of_ble_eq_true rfl) d_M_addName_83 ⟨(by first | exact Nat.le_of_ble_eq_true rfl | (dsimp only; omega) | omega), (by first | exact Nat.le_of_ble_eq_true rfl | (dsimp only; omega) | omega)⟩) hP hD hS hA [0, 1] [] rfl rfl rfl (by decide) (fun w1 H locs hp hP hD hS => ?_)
            obtain ⟨md_117, rfl, hm_117, hn_117, hn_117b⟩ := hp
            have hP : va_P (gD g) classes [(h0, .inr (4, [.ref a1, .int (nI (z_M_addOwn (z_M_one (z_M_addOwn (z_M_one (z_M_addOwn xs 11) 36) (t - 1)) 36) t).length), .ref a2, .int n2, .ref a3, .ref a4, .int n3])), (a1, .inl (gI g, 200, .inl md_117))] H := hP
            have hD : va_D A [(h0, .inr (4, [.ref a1, .int (nI (z_M_addOwn (z_M_one (z_M_addOwn (z_M_one (z_M_addOwn xs 11) 36) (t - 1)) 36) t).length), .ref a2, .int n2, .ref a3, .ref a4, .int n3])), (a1, .inl (gI g, 200, .inl md_117))] := hD
            have e : z_M_addName xs t = (z_M_addOwn (z_M_one (z_M_addOwn (z_M_one (z_M_addOwn xs 11) 36) (t - 1)) 36) t) := by rw [z_M_addName, if_neg c_1, if_neg c_73, if_neg c_74, if_pos c_110, if_neg c_115]
            exact ret_v hx hb hr hlk (hP.sub (ws' := [(h0, .inr (4, [.ref a1, .int (nI (z_M_addOwn (z_M_one (z_M_addOwn (z_M_one (z_M_addOwn xs 11) 36) (t - 1)) 36) t).length), .ref a2, .int n2, .ref a3, .ref a4, .int n3])), (a1, .inl (gI g, 200, .inl md_117))]) [0, 1] rfl) (hD.sub (ws' := [(h0, .inr (4, [.ref a1, .int (nI (z_M_addOwn (z_M_one (z_M_addOwn (z_M_one (z_M_addOwn xs 11) 36) (t - 1)) 36) t).length), .ref a2, .int n2, .ref a3, .ref a4, .int n3])), (a1, .inl (gI g, 200, .inl md_117))]) [0, 1] rfl rfl) hS ⟨md_117, by rw [e], by rw [e]; exact hm_117, by rw [e]; omega, by rw [e]; omega⟩ (by first | exact Nat.le_of_ble_eq_true rfl | (dsimp only; omega) | omega) (by first | exact Nat.le_of_ble_eq_true rfl | (dsimp only; omega) | omega) d_M_addName_86
          · skip
            refine lv_aload_n hx hb d_M_addName_75 rfl (lv_at hl 0 rfl) ?_
            refine lv_bipush (v := 49) hx hb d_M_addName_76 (by decide) ?_
            refine go_v (wr := []) (run_V hF (c_M_one g l _ h0 a1 a2 a3 a4 n2 n3 (z_M_one (z_M_addOwn (z_M_one (z_M_addOwn xs 11) 36) (t - 1)) 36) md_114 hm_114 49 (by omega)) k_M_one j_M_79 se_M_M_one (va_recv hK hP (ci := 4) (q0 := 0) rfl rfl) (cw_down G hP hD hS hA [0, 1] rfl rfl) ⟨Nat.le_of_ble_eq_true rfl, Nat.le_of_ble_eq_true rfl⟩ rfl hl.1 (Nat.le_of_ble_eq_true rfl) d_M_addName_78 ⟨(by first | exact Nat.le_of_ble_eq_true rfl | (dsimp only; omega) | omega), (by first | exact Nat.le_of_ble_eq_true rfl | (dsimp only; omega) | omega)⟩) hP hD hS hA [0, 1] [] rfl rfl rfl (by decide) (fun w1 H locs hp hP hD hS => ?_)
            obtain ⟨md_119, rfl, hm_119, hn_119, hn_119b⟩ := hp
            have hP : va_P (gD g) classes [(h0, .inr (4, [.ref a1, .int (nI (z_M_one (z_M_one (z_M_addOwn (z_M_one (z_M_addOwn xs 11) 36) (t - 1)) 36) 49).length), .ref a2, .int n2, .ref a3, .ref a4, .int n3])), (a1, .inl (gI g, 200, .inl md_119))] H := hP
            have hD : va_D A [(h0, .inr (4, [.ref a1, .int (nI (z_M_one (z_M_one (z_M_addOwn (z_M_one (z_M_addOwn xs 11) 36) (t - 1)) 36) 49).length), .ref a2, .int n2, .ref a3, .ref a4, .int n3])), (a1, .inl (gI g, 200, .inl md_119))] := hD
            refine lv_aload_n hx hb d_M_addName_81 rfl (lv_at hl 0 rfl) ?_
            refine lv_iload_n hx hb d_M_addName_82 rfl (lv_at hl 1 rfl) ?_
            refine go_v (wr := []) (run_V hF (c_M_addOwn g l _ h0 a1 a2 a3 a4 n2 n3 (z_M_one (z_M_one (z_M_addOwn (z_M_one (z_M_addOwn xs 11) 36) (t - 1)) 36) 49) md_119 hm_119 t (by omega)) k_M_addOwn j_M_99 se_M_M_addOwn (va_recv hK hP (ci := 4) (q0 := 0) rfl rfl) (cw_down G hP hD hS hA [0, 1] rfl rfl) ⟨Nat.le_of_ble_eq_true rfl, Nat.le_of_ble_eq_true rfl⟩ rfl hl.1 (Nat.le_of_ble_eq_true rfl) d_M_addName_83 ⟨(by first | exact Nat.le_of_ble_eq_true rfl | (dsimp only; omega) | omega), (by first | exact Nat.le_of_ble_eq_true rfl | (dsimp only; omega) | omega)⟩) hP hD hS hA [0, 1] [] rfl rfl rfl (by decide) (fun w1 H locs hp hP hD hS => ?_)
            obtain ⟨md_121, rfl, hm_121, hn_121, hn_121b⟩ := hp
            have hP : va_P (gD g) classes [(h0, .inr (4, [.ref a1, .int (nI (z_M_addOwn (z_M_one (z_M_one (z_M_addOwn (z_M_one (z_M_addOwn xs 11) 36) (t - 1)) 36) 49) t).length), .ref a2, .int n2, .ref a3, .ref a4, .int n3])), (a1, .inl (gI g, 200, .inl md_121))] H := hP
            have hD : va_D A [(h0, .inr (4, [.ref a1, .int (nI (z_M_addOwn (z_M_one (z_M_one (z_M_addOwn (z_M_one (z_M_addOwn xs 11) 36) (t - 1)) 36) 49) t).length), .ref a2, .int n2, .ref a3, .ref a4, .int n3])), (a1, .inl (gI g, 200, .inl md_121))] := hD
            have e : z_M_addName xs t = (z_M_addOwn (z_M_one (z_M_one (z_M_addOwn (z_M_one (z_M_addOwn xs 11) 36) (t - 1)) 36) 49) t) := by rw [z_M_addName, if_neg c_1, if_neg c_73, if_neg c_74, if_pos c_110, if_pos c_115]
            exact ret_v hx hb hr hlk (hP.sub (ws' := [(h0, .inr (4, [.ref a1, .int (nI (z_M_addOwn (z_M_one (z_M_one (z_M_addOwn (z_M_one (z_M_addOwn xs 11) 36) (t - 1)) 36) 49) t).length), .ref a2, .int n2, .ref a3, .ref a4, .int n3])), (a1, .inl (gI g, 200, .inl md_121))]) [0, 1] rfl) (hD.sub (ws' := [(h0, .inr (4, [.ref a1, .int (nI (z_M_addOwn (z_M_one (z_M_one (z_M_addOwn (z_M_one (z_M_addOwn xs 11) 36) (t - 1)) 36) 49) t).length), .ref a2, .int n2, .ref a3, .ref a4, .int n3])), (a1, .inl (gI g, 200, .inl md_121))]) [0, 1] rfl rfl) hS ⟨md_121, by rw [e], by rw [e]; exact hm_121, by rw [e]; omega, by rw [e]; omega⟩ (by first | exact Nat.le_of_ble_eq_true rfl | (dsimp only; omega) | omega) (by first | exact Nat.le_of_ble_eq_true rfl | (dsimp only; omega) | omega) d_M_addName_86
        · skip
          refine lv_iload_n hx hb d_M_addName_50 rfl (lv_at hl 1 rfl) ?_
          refine lv_bipush (v := 19) hx hb d_M_addName_51 (by decide) ?_
          refine lv_icmp_ne (tgt := 69) hx hb d_M_addName_53 (by decide) (fun c_122 => ?_) (fun c_122 => ?_)
          · skip
            refine lv_iload_n hx hb d_M_addName_69 rfl (lv_at hl 1 rfl) ?_
            refine lv_bipush (v := 23) hx hb d_M_addName_70 (by decide) ?_
            refine lv_icmp_ne (tgt := 81) hx hb d_M_addName_72 (by decide) (fun c_123 => ?_) (fun c_123 => ?_)
            · skip
              refine lv_aload_n hx hb d_M_addName_81 rfl (lv_at hl 0 rfl) ?_
              refine lv_iload_n hx hb d_M_addName_82 rfl (lv_at hl 1 rfl) ?_
              refine go_v (wr := []) (run_V hF (c_M_addOwn g l _ h0 a1 a2 a3 a4 n2 n3 (z_M_one (z_M_addOwn xs 11) 36) md_109 hm_109 t (by omega)) k_M_addOwn j_M_99 se_M_M_addOwn (va_recv hK hP (ci := 4) (q0 := 0) rfl rfl) (cw_down G hP hD hS hA [0, 1] rfl rfl) ⟨Nat.le_of_ble_eq_true rfl, Nat.le_of_ble_eq_true rfl⟩ rfl hl.1 (Nat.le_of_ble_eq_true rfl) d_M_addName_83 ⟨(by first | exact Nat.le_of_ble_eq_true rfl | (dsimp only; omega) | omega), (by first | exact Nat.le_of_ble_eq_true rfl | (dsimp only; omega) | omega)⟩) hP hD hS hA [0, 1] [] rfl rfl rfl (by decide) (fun w1 H locs hp hP hD hS => ?_)
              obtain ⟨md_125, rfl, hm_125, hn_125, hn_125b⟩ := hp
              have hP : va_P (gD g) classes [(h0, .inr (4, [.ref a1, .int (nI (z_M_addOwn (z_M_one (z_M_addOwn xs 11) 36) t).length), .ref a2, .int n2, .ref a3, .ref a4, .int n3])), (a1, .inl (gI g, 200, .inl md_125))] H := hP
              have hD : va_D A [(h0, .inr (4, [.ref a1, .int (nI (z_M_addOwn (z_M_one (z_M_addOwn xs 11) 36) t).length), .ref a2, .int n2, .ref a3, .ref a4, .int n3])), (a1, .inl (gI g, 200, .inl md_125))] := hD
              have e : z_M_addName xs t = (z_M_addOwn (z_M_one (z_M_addOwn xs 11) 36) t) := by rw [z_M_addName, if_neg c_1, if_neg c_73, if_neg c_74, if_neg c_110, if_neg c_122, if_neg c_123]
              exact ret_v hx hb hr hlk (hP.sub (ws' := [(h0, .inr (4, [.ref a1, .int (nI (z_M_addOwn (z_M_one (z_M_addOwn xs 11) 36) t).length), .ref a2, .int n2, .ref a3, .ref a4, .int n3])), (a1, .inl (gI g, 200, .inl md_125))]) [0, 1] rfl) (hD.sub (ws' := [(h0, .inr (4, [.ref a1, .int (nI (z_M_addOwn (z_M_one (z_M_addOwn xs 11) 36) t).length), .ref a2, .int n2, .ref a3, .ref a4, .int n3])), (a1, .inl (gI g, 200, .inl md_125))]) [0, 1] rfl rfl) hS ⟨md_125, by rw [e], by rw [e]; exact hm_125, by rw [e]; omega, by rw [e]; omega⟩ (by first | exact Nat.le_of_ble_eq_true rfl | (dsimp only; omega) | omega) (by first | exact Nat.le_of_ble_eq_true rfl | (dsimp only; omega) | omega) d_M_addName_86
            · skip
              refine lv_aload_n hx hb d_M_addName_75 rfl (lv_at hl 0 rfl) ?_
              refine lv_bipush (v := 49) hx hb d_M_addName_76 (by decide) ?_
              refine go_v (wr := []) (run_V hF (c_M_one g l _ h0 a1 a2 a3 a4 n2 n3 (z_M_one (z_M_addOwn xs 11) 36) md_109 hm_109 49 (by omega)) k_M_one j_M_79 se_M_M_one (va_recv hK hP (ci := 4) (q0 := 0) rfl rfl) (cw_down G hP hD hS hA [0, 1] rfl rfl) ⟨Nat.le_of_ble_eq_true rfl, Nat.le_of_ble_eq_true rfl⟩ rfl hl.1 (Nat.le_of_ble_eq_true rfl) d_M_addName_78 ⟨(by first | exact Nat.le_of_ble_eq_true rfl | (dsimp only; omega) | omega), (by first | exact Nat.le_of_ble_eq_true rfl | (dsimp only; omega) | omega)⟩) hP hD hS hA [0, 1] [] rfl rfl rfl (by decide) (fun w1 H locs hp hP hD hS => ?_)
              obtain ⟨md_127, rfl, hm_127, hn_127, hn_127b⟩ := hp
              have hP : va_P (gD g) classes [(h0, .inr (4, [.ref a1, .int (nI (z_M_one (z_M_one (z_M_addOwn xs 11) 36) 49).length), .ref a2, .int n2, .ref a3, .ref a4, .int n3])), (a1, .inl (gI g, 200, .inl md_127))] H := hP
              have hD : va_D A [(h0, .inr (4, [.ref a1, .int (nI (z_M_one (z_M_one (z_M_addOwn xs 11) 36) 49).length), .ref a2, .int n2, .ref a3, .ref a4, .int n3])), (a1, .inl (gI g, 200, .inl md_127))] := hD
              refine lv_aload_n hx hb d_M_addName_81 rfl (lv_at hl 0 rfl) ?_
              refine lv_iload_n hx hb d_M_addName_82 rfl (lv_at hl 1 rfl) ?_
              refine go_v (wr := []) (run_V hF (c_M_addOwn g l _ h0 a1 a2 a3 a4 n2 n3 (z_M_one (z_M_one (z_M_addOwn xs 11) 36) 49) md_127 hm_127 t (by omega)) k_M_addOwn j_M_99 se_M_M_addOwn (va_recv hK hP (ci := 4) (q0 := 0) rfl rfl) (cw_down G hP hD hS hA [0, 1] rfl rfl) ⟨Nat.le_of_ble_eq_true rfl, Nat.le_of_ble_eq_true rfl⟩ rfl hl.1 (Nat.le_of_ble_eq_true rfl) d_M_addName_83 ⟨(by first | exact Nat.le_of_ble_eq_true rfl | (dsimp only; omega) | omega), (by first | exact Nat.le_of_ble_eq_true rfl | (dsimp only; omega) | omega)⟩) hP hD hS hA [0, 1] [] rfl rfl rfl (by decide) (fun w1 H locs hp hP hD hS => ?_)
              obtain ⟨md_129, rfl, hm_129, hn_129, hn_129b⟩ := hp
              have hP : va_P (gD g) classes [(h0, .inr (4, [.ref a1, .int (nI (z_M_addOwn (z_M_one (z_M_one (z_M_addOwn xs 11) 36) 49) t).length), .ref a2, .int n2, .ref a3, .ref a4, .int n3])), (a1, .inl (gI g, 200, .inl md_129))] H := hP
              have hD : va_D A [(h0, .inr (4, [.ref a1, .int (nI (z_M_addOwn (z_M_one (z_M_one (z_M_addOwn xs 11) 36) 49) t).length), .ref a2, .int n2, .ref a3, .ref a4, .int n3])), (a1, .inl (gI g, 200, .inl md_129))] := hD
              have e : z_M_addName xs t = (z_M_addOwn (z_M_one (z_M_one (z_M_addOwn xs 11) 36) 49) t) := by rw [z_M_addName, if_neg c_1, if_neg c_73, if_neg c_74, if_neg c_110, if_neg c_122, if_pos c_123]
              exact ret_v hx hb hr hlk (hP.sub (ws' := [(h0, .inr (4, [.ref a1, .int (nI (z_M_addOwn (z_M_one (z_M_one (z_M_addOwn xs 11) 36) 49) t).length), .ref a2, .int n2, .ref a3, .ref a4, .int n3])), (a1, .inl (gI g, 200, .inl md_129))]) [0, 1] rfl) (hD.sub (ws' := [(h0, .inr (4, [.ref a1, .int (nI (z_M_addOwn (z_M_one (z_M_one (z_M_addOwn xs 11) 36) 49) t).length), .ref a2, .int n2, .ref a3, .ref a4, .int n3])), (a1, .inl (gI g, 200, .inl md_129))]) [0, 1] rfl rfl) hS ⟨md_129, by rw [e], by rw [e]; exact hm_129, by rw [e]; omega, by rw [e]; omega⟩ (by first | exact Nat.le_of_ble_eq_true rfl | (dsimp only; omega) | omega) (by first | exact Nat.le_of_ble_eq_true rfl | (dsimp only; omega) | omega) d_M_addName_86
          · skip
            refine lv_aload_n hx hb d_M_addName_56 rfl (lv_at hl 0 rfl) ?_
            refine lv_iload_n hx hb d_M_addName_57 rfl (lv_at hl 1 rfl) ?_
            refine lv_iconst (v := 1) hx hb d_M_addName_58 (by decide) ?_
            refine lv_isub hx hb d_M_addName_59 ?_
            refine go_v (wr := []) (run_V hF (c_M_addOwn g l _ h0 a1 a2 a3 a4 n2 n3 (z_M_one (z_M_addOwn xs 11) 36) md_109 hm_109 (t - 1) (by omega)) k_M_addOwn j_M_99 se_M_M_addOwn (va_recv hK hP (ci := 4) (q0 := 0) rfl rfl) (cw_down G hP hD hS hA [0, 1] rfl rfl) ⟨Nat.le_of_ble_eq_true rfl, Nat.le_of_ble_eq_true rfl⟩ rfl hl.1 (Nat.le_of_ble_eq_true rfl) d_M_addName_60 ⟨(by first | exact Nat.le_of_ble_eq_true rfl | (dsimp only; omega) | omega), (by first | exact Nat.le_of_ble_eq_true rfl | (dsimp only; omega) | omega)⟩) hP hD hS hA [0, 1] [] rfl rfl rfl (by decide) (fun w1 H locs hp hP hD hS => ?_)
            obtain ⟨md_131, rfl, hm_131, hn_131, hn_131b⟩ := hp
            have hP : va_P (gD g) classes [(h0, .inr (4, [.ref a1, .int (nI (z_M_addOwn (z_M_one (z_M_addOwn xs 11) 36) (t - 1)).length), .ref a2, .int n2, .ref a3, .ref a4, .int n3])), (a1, .inl (gI g, 200, .inl md_131))] H := hP
            have hD : va_D A [(h0, .inr (4, [.ref a1, .int (nI (z_M_addOwn (z_M_one (z_M_addOwn xs 11) 36) (t - 1)).length), .ref a2, .int n2, .ref a3, .ref a4, .int n3])), (a1, .inl (gI g, 200, .inl md_131))] := hD
            refine lv_aload_n hx hb d_M_addName_63 rfl (lv_at hl 0 rfl) ?_
            refine lv_bipush (v := 36) hx hb d_M_addName_64 (by decide) ?_
            refine go_v (wr := []) (run_V hF (c_M_one g l _ h0 a1 a2 a3 a4 n2 n3 (z_M_addOwn (z_M_one (z_M_addOwn xs 11) 36) (t - 1)) md_131 hm_131 36 (by omega)) k_M_one j_M_79 se_M_M_one (va_recv hK hP (ci := 4) (q0 := 0) rfl rfl) (cw_down G hP hD hS hA [0, 1] rfl rfl) ⟨Nat.le_of_ble_eq_true rfl, Nat.le_of_ble_eq_true rfl⟩ rfl hl.1 (Nat.le_of_ble_eq_true rfl) d_M_addName_66 ⟨(by first | exact Nat.le_of_ble_eq_true rfl | (dsimp only; omega) | omega), (by first | exact Nat.le_of_ble_eq_true rfl | (dsimp only; omega) | omega)⟩) hP hD hS hA [0, 1] [] rfl rfl rfl (by decide) (fun w1 H locs hp hP hD hS => ?_)
            obtain ⟨md_133, rfl, hm_133, hn_133, hn_133b⟩ := hp
            have hP : va_P (gD g) classes [(h0, .inr (4, [.ref a1, .int (nI (z_M_one (z_M_addOwn (z_M_one (z_M_addOwn xs 11) 36) (t - 1)) 36).length), .ref a2, .int n2, .ref a3, .ref a4, .int n3])), (a1, .inl (gI g, 200, .inl md_133))] H := hP
            have hD : va_D A [(h0, .inr (4, [.ref a1, .int (nI (z_M_one (z_M_addOwn (z_M_one (z_M_addOwn xs 11) 36) (t - 1)) 36).length), .ref a2, .int n2, .ref a3, .ref a4, .int n3])), (a1, .inl (gI g, 200, .inl md_133))] := hD
            refine lv_iload_n hx hb d_M_addName_69 rfl (lv_at hl 1 rfl) ?_
            refine lv_bipush (v := 23) hx hb d_M_addName_70 (by decide) ?_
            refine lv_icmp_ne (tgt := 81) hx hb d_M_addName_72 (by decide) (fun c_134 => ?_) (fun c_134 => ?_)
            · skip
              refine lv_aload_n hx hb d_M_addName_81 rfl (lv_at hl 0 rfl) ?_
              refine lv_iload_n hx hb d_M_addName_82 rfl (lv_at hl 1 rfl) ?_
              refine go_v (wr := []) (run_V hF (c_M_addOwn g l _ h0 a1 a2 a3 a4 n2 n3 (z_M_one (z_M_addOwn (z_M_one (z_M_addOwn xs 11) 36) (t - 1)) 36) md_133 hm_133 t (by omega)) k_M_addOwn j_M_99 se_M_M_addOwn (va_recv hK hP (ci := 4) (q0 := 0) rfl rfl) (cw_down G hP hD hS hA [0, 1] rfl rfl) ⟨Nat.le_of_ble_eq_true rfl, Nat.le_of_ble_eq_true rfl⟩ rfl hl.1 (Nat.le_of_ble_eq_true rfl) d_M_addName_83 ⟨(by first | exact Nat.le_of_ble_eq_true rfl | (dsimp only; omega) | omega), (by first | exact Nat.le_of_ble_eq_true rfl | (dsimp only; omega) | omega)⟩) hP hD hS hA [0, 1] [] rfl rfl rfl (by decide) (fun w1 H locs hp hP hD hS => ?_)
              obtain ⟨md_136, rfl, hm_136, hn_136, hn_136b⟩ := hp
              have hP : va_P (gD g) classes [(h0, .inr (4, [.ref a1, .int (nI (z_M_addOwn (z_M_one (z_M_addOwn (z_M_one (z_M_addOwn xs 11) 36) (t - 1)) 36) t).length), .ref a2, .int n2, .ref a3, .ref a4, .int n3])), (a1, .inl (gI g, 200, .inl md_136))] H := hP
              have hD : va_D A [(h0, .inr (4, [.ref a1, .int (nI (z_M_addOwn (z_M_one (z_M_addOwn (z_M_one (z_M_addOwn xs 11) 36) (t - 1)) 36) t).length), .ref a2, .int n2, .ref a3, .ref a4, .int n3])), (a1, .inl (gI g, 200, .inl md_136))] := hD
              have e : z_M_addName xs t = (z_M_addOwn (z_M_one (z_M_addOwn (z_M_one (z_M_addOwn xs 11) 36) (t - 1)) 36) t) := by rw [z_M_addName, if_neg c_1, if_neg c_73, if_neg c_74, if_neg c_110, if_pos c_122, if_neg c_134]
              exact ret_v hx hb hr hlk (hP.sub (ws' := [(h0, .inr (4, [.ref a1, .int (nI (z_M_addOwn (z_M_one (z_M_addOwn (z_M_one (z_M_addOwn xs 11) 36) (t - 1)) 36) t).length), .ref a2, .int n2, .ref a3, .ref a4, .int n3])), (a1, .inl (gI g, 200, .inl md_136))]) [0, 1] rfl) (hD.sub (ws' := [(h0, .inr (4, [.ref a1, .int (nI (z_M_addOwn (z_M_one (z_M_addOwn (z_M_one (z_M_addOwn xs 11) 36) (t - 1)) 36) t).length), .ref a2, .int n2, .ref a3, .ref a4, .int n3])), (a1, .inl (gI g, 200, .inl md_136))]) [0, 1] rfl rfl) hS ⟨md_136, by rw [e], by rw [e]; exact hm_136, by rw [e]; omega, by rw [e]; omega⟩ (by first | exact Nat.le_of_ble_eq_true rfl | (dsimp only; omega) | omega) (by first | exact Nat.le_of_ble_eq_true rfl | (dsimp only; omega) | omega) d_M_addName_86
            · skip
              refine lv_aload_n hx hb d_M_addName_75 rfl (lv_at hl 0 rfl) ?_
              refine lv_bipush (v := 49) hx hb d_M_addName_76 (by decide) ?_
              refine go_v (wr := []) (run_V hF (c_M_one g l _ h0 a1 a2 a3 a4 n2 n3 (z_M_one (z_M_addOwn (z_M_one (z_M_addOwn xs 11) 36) (t - 1)) 36) md_133 hm_133 49 (by omega)) k_M_one j_M_79 se_M_M_one (va_recv hK hP (ci := 4) (q0 := 0) rfl rfl) (cw_down G hP hD hS hA [0, 1] rfl rfl) ⟨Nat.le_of_ble_eq_true rfl, Nat.le_of_ble_eq_true rfl⟩ rfl hl.1 (Nat.le_of_ble_eq_true rfl) d_M_addName_78 ⟨(by first | exact Nat.le_of_ble_eq_true rfl | (dsimp only; omega) | omega), (by first | exact Nat.le_of_ble_eq_true rfl | (dsimp only; omega) | omega)⟩) hP hD hS hA [0, 1] [] rfl rfl rfl (by decide) (fun w1 H locs hp hP hD hS => ?_)
              obtain ⟨md_138, rfl, hm_138, hn_138, hn_138b⟩ := hp
              have hP : va_P (gD g) classes [(h0, .inr (4, [.ref a1, .int (nI (z_M_one (z_M_one (z_M_addOwn (z_M_one (z_M_addOwn xs 11) 36) (t - 1)) 36) 49).length), .ref a2, .int n2, .ref a3, .ref a4, .int n3])), (a1, .inl (gI g, 200, .inl md_138))] H := hP
              have hD : va_D A [(h0, .inr (4, [.ref a1, .int (nI (z_M_one (z_M_one (z_M_addOwn (z_M_one (z_M_addOwn xs 11) 36) (t - 1)) 36) 49).length), .ref a2, .int n2, .ref a3, .ref a4, .int n3])), (a1, .inl (gI g, 200, .inl md_138))] := hD
              refine lv_aload_n hx hb d_M_addName_81 rfl (lv_at hl 0 rfl) ?_
              refine lv_iload_n hx hb d_M_addName_82 rfl (lv_at hl 1 rfl) ?_
              refine go_v (wr := []) (run_V hF (c_M_addOwn g l _ h0 a1 a2 a3 a4 n2 n3 (z_M_one (z_M_one (z_M_addOwn (z_M_one (z_M_addOwn xs 11) 36) (t - 1)) 36) 49) md_138 hm_138 t (by omega)) k_M_addOwn j_M_99 se_M_M_addOwn (va_recv hK hP (ci := 4) (q0 := 0) rfl rfl) (cw_down G hP hD hS hA [0, 1] rfl rfl) ⟨Nat.le_of_ble_eq_true rfl, Nat.le_of_ble_eq_true rfl⟩ rfl hl.1 (Nat.le_of_ble_eq_true rfl) d_M_addName_83 ⟨(by first | exact Nat.le_of_ble_eq_true rfl | (dsimp only; omega) | omega), (by first | exact Nat.le_of_ble_eq_true rfl | (dsimp only; omega) | omega)⟩) hP hD hS hA [0, 1] [] rfl rfl rfl (by decide) (fun w1 H locs hp hP hD hS => ?_)
              obtain ⟨md_140, rfl, hm_140, hn_140, hn_140b⟩ := hp
              have hP : va_P (gD g) classes [(h0, .inr (4, [.ref a1, .int (nI (z_M_addOwn (z_M_one (z_M_one (z_M_addOwn (z_M_one (z_M_addOwn xs 11) 36) (t - 1)) 36) 49) t).length), .ref a2, .int n2, .ref a3, .ref a4, .int n3])), (a1, .inl (gI g, 200, .inl md_140))] H := hP
              have hD : va_D A [(h0, .inr (4, [.ref a1, .int (nI (z_M_addOwn (z_M_one (z_M_one (z_M_addOwn (z_M_one (z_M_addOwn xs 11) 36) (t - 1)) 36) 49) t).length), .ref a2, .int n2, .ref a3, .ref a4, .int n3])), (a1, .inl (gI g, 200, .inl md_140))] := hD
              have e : z_M_addName xs t = (z_M_addOwn (z_M_one (z_M_one (z_M_addOwn (z_M_one (z_M_addOwn xs 11) 36) (t - 1)) 36) 49) t) := by rw [z_M_addName, if_neg c_1, if_neg c_73, if_neg c_74, if_neg c_110, if_pos c_122, if_pos c_134]
              exact ret_v hx hb hr hlk (hP.sub (ws' := [(h0, .inr (4, [.ref a1, .int (nI (z_M_addOwn (z_M_one (z_M_one (z_M_addOwn (z_M_one (z_M_addOwn xs 11) 36) (t - 1)) 36) 49) t).length), .ref a2, .int n2, .ref a3, .ref a4, .int n3])), (a1, .inl (gI g, 200, .inl md_140))]) [0, 1] rfl) (hD.sub (ws' := [(h0, .inr (4, [.ref a1, .int (nI (z_M_addOwn (z_M_one (z_M_one (z_M_addOwn (z_M_one (z_M_addOwn xs 11) 36) (t - 1)) 36) 49) t).length), .ref a2, .int n2, .ref a3, .ref a4, .int n3])), (a1, .inl (gI g, 200, .inl md_140))]) [0, 1] rfl rfl) hS ⟨md_140, by rw [e], by rw [e]; exact hm_140, by rw [e]; omega, by rw [e]; omega⟩ (by first | exact Nat.le_of_ble_eq_true rfl | (dsimp only; omega) | omega) (by first | exact Nat.le_of_ble_eq_true rfl | (dsimp only; omega) | omega) d_M_addName_86
    · skip
      refine lv_aload_n hx hb d_M_addName_12 rfl (lv_at hl 0 rfl) ?_
      refine lv_ldc2 (v := 456901681454) hx hb hF.2.2.2.1 (hF.2.2.2.2 _ cl_M_95) d_M_addName_13 ?_
      refine go_v (wr := []) (run_V hF (c_M_add g l _ h0 a1 a2 a3 a4 n2 n3 xs md hm 456901681454 (by omega)) k_M_add j_M_85 se_M_M_add (va_recv hK hP (ci := 4) (q0 := 0) rfl rfl) (cw_down G hP hD hS hA [0, 1] rfl rfl) ⟨Nat.le_of_ble_eq_true rfl, Nat.le_of_ble_eq_true rfl⟩ rfl hl.1 (Nat.le_of_ble_eq_true rfl) d_M_addName_16 ⟨(by first | exact Nat.le_of_ble_eq_true rfl | (dsimp only; omega) | omega), (by first | exact Nat.le_of_ble_eq_true rfl | (dsimp only; omega) | omega)⟩) hP hD hS hA [0, 1] [] rfl rfl rfl (by decide) (fun w1 H locs hp hP hD hS => ?_)
      obtain ⟨md_142, rfl, hm_142, hn_142, hn_142b⟩ := hp
      have hP : va_P (gD g) classes [(h0, .inr (4, [.ref a1, .int (nI (z_M_add xs 456901681454).length), .ref a2, .int n2, .ref a3, .ref a4, .int n3])), (a1, .inl (gI g, 200, .inl md_142))] H := hP
      have hD : va_D A [(h0, .inr (4, [.ref a1, .int (nI (z_M_add xs 456901681454).length), .ref a2, .int n2, .ref a3, .ref a4, .int n3])), (a1, .inl (gI g, 200, .inl md_142))] := hD
      refine lv_aload_n hx hb d_M_addName_19 rfl (lv_at hl 0 rfl) ?_
      refine lv_ldc2 (v := 465491093294) hx hb hF.2.2.2.1 (hF.2.2.2.2 _ cl_M_97) d_M_addName_20 ?_
      refine go_v (wr := []) (run_V hF (c_M_add g l _ h0 a1 a2 a3 a4 n2 n3 (z_M_add xs 456901681454) md_142 hm_142 465491093294 (by omega)) k_M_add j_M_85 se_M_M_add (va_recv hK hP (ci := 4) (q0 := 0) rfl rfl) (cw_down G hP hD hS hA [0, 1] rfl rfl) ⟨Nat.le_of_ble_eq_true rfl, Nat.le_of_ble_eq_true rfl⟩ rfl hl.1 (Nat.le_of_ble_eq_true rfl) d_M_addName_23 ⟨(by first | exact Nat.le_of_ble_eq_true rfl | (dsimp only; omega) | omega), (by first | exact Nat.le_of_ble_eq_true rfl | (dsimp only; omega) | omega)⟩) hP hD hS hA [0, 1] [] rfl rfl rfl (by decide) (fun w1 H locs hp hP hD hS => ?_)
      obtain ⟨md_144, rfl, hm_144, hn_144, hn_144b⟩ := hp
      have hP : va_P (gD g) classes [(h0, .inr (4, [.ref a1, .int (nI (z_M_add (z_M_add xs 456901681454) 465491093294).length), .ref a2, .int n2, .ref a3, .ref a4, .int n3])), (a1, .inl (gI g, 200, .inl md_144))] H := hP
      have hD : va_D A [(h0, .inr (4, [.ref a1, .int (nI (z_M_add (z_M_add xs 456901681454) 465491093294).length), .ref a2, .int n2, .ref a3, .ref a4, .int n3])), (a1, .inl (gI g, 200, .inl md_144))] := hD
      refine lv_iload_n hx hb d_M_addName_26 rfl (lv_at hl 1 rfl) ?_
      refine lv_bipush (v := 11) hx hb d_M_addName_27 (by decide) ?_
      refine lv_icmp_le (tgt := 44) hx hb d_M_addName_29 (by decide) (fun c_145 => ?_) (fun c_145 => ?_)
      · skip
        refine lv_iload_n hx hb d_M_addName_44 rfl (lv_at hl 1 rfl) ?_
        refine lv_bipush (v := 17) hx hb d_M_addName_45 (by decide) ?_
        refine lv_icmp_eq (tgt := 56) hx hb d_M_addName_47 (by decide) (fun c_146 => ?_) (fun c_146 => ?_)
        · skip
          refine lv_aload_n hx hb d_M_addName_56 rfl (lv_at hl 0 rfl) ?_
          refine lv_iload_n hx hb d_M_addName_57 rfl (lv_at hl 1 rfl) ?_
          refine lv_iconst (v := 1) hx hb d_M_addName_58 (by decide) ?_
          refine lv_isub hx hb d_M_addName_59 ?_
          refine go_v (wr := []) (run_V hF (c_M_addOwn g l _ h0 a1 a2 a3 a4 n2 n3 (z_M_add (z_M_add xs 456901681454) 465491093294) md_144 hm_144 (t - 1) (by omega)) k_M_addOwn j_M_99 se_M_M_addOwn (va_recv hK hP (ci := 4) (q0 := 0) rfl rfl) (cw_down G hP hD hS hA [0, 1] rfl rfl) ⟨Nat.le_of_ble_eq_true rfl, Nat.le_of_ble_eq_true rfl⟩ rfl hl.1 (Nat.le_of_ble_eq_true rfl) d_M_addName_60 ⟨(by first | exact Nat.le_of_ble_eq_true rfl | (dsimp only; omega) | omega), (by first | exact Nat.le_of_ble_eq_true rfl | (dsimp only; omega) | omega)⟩) hP hD hS hA [0, 1] [] rfl rfl rfl (by decide) (fun w1 H locs hp hP hD hS => ?_)
          obtain ⟨md_148, rfl, hm_148, hn_148, hn_148b⟩ := hp
          have hP : va_P (gD g) classes [(h0, .inr (4, [.ref a1, .int (nI (z_M_addOwn (z_M_add (z_M_add xs 456901681454) 465491093294) (t - 1)).length), .ref a2, .int n2, .ref a3, .ref a4, .int n3])), (a1, .inl (gI g, 200, .inl md_148))] H := hP
          have hD : va_D A [(h0, .inr (4, [.ref a1, .int (nI (z_M_addOwn (z_M_add (z_M_add xs 456901681454) 465491093294) (t - 1)).length), .ref a2, .int n2, .ref a3, .ref a4, .int n3])), (a1, .inl (gI g, 200, .inl md_148))] := hD
          refine lv_aload_n hx hb d_M_addName_63 rfl (lv_at hl 0 rfl) ?_
          refine lv_bipush (v := 36) hx hb d_M_addName_64 (by decide) ?_
          refine go_v (wr := []) (run_V hF (c_M_one g l _ h0 a1 a2 a3 a4 n2 n3 (z_M_addOwn (z_M_add (z_M_add xs 456901681454) 465491093294) (t - 1)) md_148 hm_148 36 (by omega)) k_M_one j_M_79 se_M_M_one (va_recv hK hP (ci := 4) (q0 := 0) rfl rfl) (cw_down G hP hD hS hA [0, 1] rfl rfl) ⟨Nat.le_of_ble_eq_true rfl, Nat.le_of_ble_eq_true rfl⟩ rfl hl.1 (Nat.le_of_ble_eq_true rfl) d_M_addName_66 ⟨(by first | exact Nat.le_of_ble_eq_true rfl | (dsimp only; omega) | omega), (by first | exact Nat.le_of_ble_eq_true rfl | (dsimp only; omega) | omega)⟩) hP hD hS hA [0, 1] [] rfl rfl rfl (by decide) (fun w1 H locs hp hP hD hS => ?_)
          obtain ⟨md_150, rfl, hm_150, hn_150, hn_150b⟩ := hp
          have hP : va_P (gD g) classes [(h0, .inr (4, [.ref a1, .int (nI (z_M_one (z_M_addOwn (z_M_add (z_M_add xs 456901681454) 465491093294) (t - 1)) 36).length), .ref a2, .int n2, .ref a3, .ref a4, .int n3])), (a1, .inl (gI g, 200, .inl md_150))] H := hP
          have hD : va_D A [(h0, .inr (4, [.ref a1, .int (nI (z_M_one (z_M_addOwn (z_M_add (z_M_add xs 456901681454) 465491093294) (t - 1)) 36).length), .ref a2, .int n2, .ref a3, .ref a4, .int n3])), (a1, .inl (gI g, 200, .inl md_150))] := hD
          refine lv_iload_n hx hb d_M_addName_69 rfl (lv_at hl 1 rfl) ?_
          refine lv_bipush (v := 23) hx hb d_M_addName_70 (by decide) ?_
          refine lv_icmp_ne (tgt := 81) hx hb d_M_addName_72 (by decide) (fun c_151 => ?_) (fun c_151 => ?_)
          · skip
            refine lv_aload_n hx hb d_M_addName_81 rfl (lv_at hl 0 rfl) ?_
            refine lv_iload_n hx hb d_M_addName_82 rfl (lv_at hl 1 rfl) ?_
            refine go_v (wr := []) (run_V hF (c_M_addOwn g l _ h0 a1 a2 a3 a4 n2 n3 (z_M_one (z_M_addOwn (z_M_add (z_M_add xs 456901681454) 465491093294) (t - 1)) 36) md_150 hm_150 t (by omega)) k_M_addOwn j_M_99 se_M_M_addOwn (va_recv hK hP (ci := 4) (q0 := 0) rfl rfl) (cw_down G hP hD hS hA [0, 1] rfl rfl) ⟨Nat.le_of_ble_eq_true rfl, Nat.le_of_ble_eq_true rfl⟩ rfl hl.1 (Nat.le_of_ble_eq_true rfl) d_M_addName_83 ⟨(by first | exact Nat.le_of_ble_eq_true rfl | (dsimp only; omega) | omega), (by first | exact Nat.le_of_ble_eq_true rfl | (dsimp only; omega) | omega)⟩) hP hD hS hA [0, 1] [] rfl rfl rfl (by decide) (fun w1 H locs hp hP hD hS => ?_)
            obtain ⟨md_153, rfl, hm_153, hn_153, hn_153b⟩ := hp
            have hP : va_P (gD g) classes [(h0, .inr (4, [.ref a1, .int (nI (z_M_addOwn (z_M_one (z_M_addOwn (z_M_add (z_M_add xs 456901681454) 465491093294) (t - 1)) 36) t).length), .ref a2, .int n2, .ref a3, .ref a4, .int n3])), (a1, .inl (gI g, 200, .inl md_153))] H := hP
            have hD : va_D A [(h0, .inr (4, [.ref a1, .int (nI (z_M_addOwn (z_M_one (z_M_addOwn (z_M_add (z_M_add xs 456901681454) 465491093294) (t - 1)) 36) t).length), .ref a2, .int n2, .ref a3, .ref a4, .int n3])), (a1, .inl (gI g, 200, .inl md_153))] := hD
            have e : z_M_addName xs t = (z_M_addOwn (z_M_one (z_M_addOwn (z_M_add (z_M_add xs 456901681454) 465491093294) (t - 1)) 36) t) := by rw [z_M_addName, if_neg c_1, if_pos c_73, if_pos c_145, if_pos c_146, if_neg c_151]
            exact ret_v hx hb hr hlk (hP.sub (ws' := [(h0, .inr (4, [.ref a1, .int (nI (z_M_addOwn (z_M_one (z_M_addOwn (z_M_add (z_M_add xs 456901681454) 465491093294) (t - 1)) 36) t).length), .ref a2, .int n2, .ref a3, .ref a4, .int n3])), (a1, .inl (gI g, 200, .inl md_153))]) [0, 1] rfl) (hD.sub (ws' := [(h0, .inr (4, [.ref a1, .int (nI (z_M_addOwn (z_M_one (z_M_addOwn (z_M_add (z_M_add xs 456901681454) 465491093294) (t - 1)) 36) t).length), .ref a2, .int n2, .ref a3, .ref a4, .int n3])), (a1, .inl (gI g, 200, .inl md_153))]) [0, 1] rfl rfl) hS ⟨md_153, by rw [e], by rw [e]; exact hm_153, by rw [e]; omega, by rw [e]; omega⟩ (by first | exact Nat.le_of_ble_eq_true rfl | (dsimp only; omega) | omega) (by first | exact Nat.le_of_ble_eq_true rfl | (dsimp only; omega) | omega) d_M_addName_86
          · skip
            refine lv_aload_n hx hb d_M_addName_75 rfl (lv_at hl 0 rfl) ?_
            refine lv_bipush (v := 49) hx hb d_M_addName_76 (by decide) ?_
            refine go_v (wr := []) (run_V hF (c_M_one g l _ h0 a1 a2 a3 a4 n2 n3 (z_M_one (z_M_addOwn (z_M_add (z_M_add xs 456901681454) 465491093294) (t - 1)) 36) md_150 hm_150 49 (by omega)) k_M_one j_M_79 se_M_M_one (va_recv hK hP (ci := 4) (q0 := 0) rfl rfl) (cw_down G hP hD hS hA [0, 1] rfl rfl) ⟨Nat.le_of_ble_eq_true rfl, Nat.le_of_ble_eq_true rfl⟩ rfl hl.1 (Nat.le_of_ble_eq_true rfl) d_M_addName_78 ⟨(by first | exact Nat.le_of_ble_eq_true rfl | (dsimp only; omega) | omega), (by first | exact Nat.le_of_ble_eq_true rfl | (dsimp only; omega) | omega)⟩) hP hD hS hA [0, 1] [] rfl rfl rfl (by decide) (fun w1 H locs hp hP hD hS => ?_)
            obtain ⟨md_155, rfl, hm_155, hn_155, hn_155b⟩ := hp
            have hP : va_P (gD g) classes [(h0, .inr (4, [.ref a1, .int (nI (z_M_one (z_M_one (z_M_addOwn (z_M_add (z_M_add xs 456901681454) 465491093294) (t - 1)) 36) 49).length), .ref a2, .int n2, .ref a3, .ref a4, .int n3])), (a1, .inl (gI g, 200, .inl md_155))] H := hP
            have hD : va_D A [(h0, .inr (4, [.ref a1, .int (nI (z_M_one (z_M_one (z_M_addOwn (z_M_add (z_M_add xs 456901681454) 465491093294) (t - 1)) 36) 49).length), .ref a2, .int n2, .ref a3, .ref a4, .int n3])), (a1, .inl (gI g, 200, .inl md_155))] := hD
            refine lv_aload_n hx hb d_M_addName_81 rfl (lv_at hl 0 rfl) ?_
            refine lv_iload_n hx hb d_M_addName_82 rfl (lv_at hl 1 rfl) ?_
            refine go_v (wr := []) (run_V hF (c_M_addOwn g l _ h0 a1 a2 a3 a4 n2 n3 (z_M_one (z_M_one (z_M_addOwn (z_M_add (z_M_add xs 456901681454) 465491093294) (t - 1)) 36) 49) md_155 hm_155 t (by omega)) k_M_addOwn j_M_99 se_M_M_addOwn (va_recv hK hP (ci := 4) (q0 := 0) rfl rfl) (cw_down G hP hD hS hA [0, 1] rfl rfl) ⟨Nat.le_of_ble_eq_true rfl, Nat.le_of_ble_eq_true rfl⟩ rfl hl.1 (Nat.le_of_ble_eq_true rfl) d_M_addName_83 ⟨(by first | exact Nat.le_of_ble_eq_true rfl | (dsimp only; omega) | omega), (by first | exact Nat.le_of_ble_eq_true rfl | (dsimp only; omega) | omega)⟩) hP hD hS hA [0, 1] [] rfl rfl rfl (by decide) (fun w1 H locs hp hP hD hS => ?_)
            obtain ⟨md_157, rfl, hm_157, hn_157, hn_157b⟩ := hp
            have hP : va_P (gD g) classes [(h0, .inr (4, [.ref a1, .int (nI (z_M_addOwn (z_M_one (z_M_one (z_M_addOwn (z_M_add (z_M_add xs 456901681454) 465491093294) (t - 1)) 36) 49) t).length), .ref a2, .int n2, .ref a3, .ref a4, .int n3])), (a1, .inl (gI g, 200, .inl md_157))] H := hP
            have hD : va_D A [(h0, .inr (4, [.ref a1, .int (nI (z_M_addOwn (z_M_one (z_M_one (z_M_addOwn (z_M_add (z_M_add xs 456901681454) 465491093294) (t - 1)) 36) 49) t).length), .ref a2, .int n2, .ref a3, .ref a4, .int n3])), (a1, .inl (gI g, 200, .inl md_157))] := hD
            have e : z_M_addName xs t = (z_M_addOwn (z_M_one (z_M_one (z_M_addOwn (z_M_add (z_M_add xs 456901681454) 465491093294) (t - 1)) 36) 49) t) := by rw [z_M_addName, if_neg c_1, if_pos c_73, if_pos c_145, if_pos c_146, if_pos c_151]
            exact ret_v hx hb hr hlk (hP.sub (ws' := [(h0, .inr (4, [.ref a1, .int (nI (z_M_addOwn (z_M_one (z_M_one (z_M_addOwn (z_M_add (z_M_add xs 456901681454) 465491093294) (t - 1)) 36) 49) t).length), .ref a2, .int n2, .ref a3, .ref a4, .int n3])), (a1, .inl (gI g, 200, .inl md_157))]) [0, 1] rfl) (hD.sub (ws' := [(h0, .inr (4, [.ref a1, .int (nI (z_M_addOwn (z_M_one (z_M_one (z_M_addOwn (z_M_add (z_M_add xs 456901681454) 465491093294) (t - 1)) 36) 49) t).length), .ref a2, .int n2, .ref a3, .ref a4, .int n3])), (a1, .inl (gI g, 200, .inl md_157))]) [0, 1] rfl rfl) hS ⟨md_157, by rw [e], by rw [e]; exact hm_157, by rw [e]; omega, by rw [e]; omega⟩ (by first | exact Nat.le_of_ble_eq_true rfl | (dsimp only; omega) | omega) (by first | exact Nat.le_of_ble_eq_true rfl | (dsimp only; omega) | omega) d_M_addName_86
        · skip
          refine lv_iload_n hx hb d_M_addName_50 rfl (lv_at hl 1 rfl) ?_
          refine lv_bipush (v := 19) hx hb d_M_addName_51 (by decide) ?_
          refine lv_icmp_ne (tgt := 69) hx hb d_M_addName_53 (by decide) (fun c_158 => ?_) (fun c_158 => ?_)
          · skip
            refine lv_iload_n hx hb d_M_addName_69 rfl (lv_at hl 1 rfl) ?_
            refine lv_bipush (v := 23) hx hb d_M_addName_70 (by decide) ?_
            refine lv_icmp_ne (tgt := 81) hx hb d_M_addName_72 (by decide) (fun c_159 => ?_) (fun c_159 => ?_)
            · skip
              refine lv_aload_n hx hb d_M_addName_81 rfl (lv_at hl 0 rfl) ?_
              refine lv_iload_n hx hb d_M_addName_82 rfl (lv_at hl 1 rfl) ?_
              refine go_v (wr := []) (run_V hF (c_M_addOwn g l _ h0 a1 a2 a3 a4 n2 n3 (z_M_add (z_M_add xs 456901681454) 465491093294) md_144 hm_144 t (by omega)) k_M_addOwn j_M_99 se_M_M_addOwn (va_recv hK hP (ci := 4) (q0 := 0) rfl rfl) (cw_down G hP hD hS hA [0, 1] rfl rfl) ⟨Nat.le_of_ble_eq_true rfl, Nat.le_of_ble_eq_true rfl⟩ rfl hl.1 (Nat.le_of_ble_eq_true rfl) d_M_addName_83 ⟨(by first | exact Nat.le_of_ble_eq_true rfl | (dsimp only; omega) | omega), (by first | exact Nat.le_of_ble_eq_true rfl | (dsimp only; omega) | omega)⟩) hP hD hS hA [0, 1] [] rfl rfl rfl (by decide) (fun w1 H locs hp hP hD hS => ?_)
              obtain ⟨md_161, rfl, hm_161, hn_161, hn_161b⟩ := hp
              have hP : va_P (gD g) classes [(h0, .inr (4, [.ref a1, .int (nI (z_M_addOwn (z_M_add (z_M_add xs 456901681454) 465491093294) t).length), .ref a2, .int n2, .ref a3, .ref a4, .int n3])), (a1, .inl (gI g, 200, .inl md_161))] H := hP
              have hD : va_D A [(h0, .inr (4, [.ref a1, .int (nI (z_M_addOwn (z_M_add (z_M_add xs 456901681454) 465491093294) t).length), .ref a2, .int n2, .ref a3, .ref a4, .int n3])), (a1, .inl (gI g, 200, .inl md_161))] := hD
              have e : z_M_addName xs t = (z_M_addOwn (z_M_add (z_M_add xs 456901681454) 465491093294) t) := by rw [z_M_addName, if_neg c_1, if_pos c_73, if_pos c_145, if_neg c_146, if_neg c_158, if_neg c_159]
              exact ret_v hx hb hr hlk (hP.sub (ws' := [(h0, .inr (4, [.ref a1, .int (nI (z_M_addOwn (z_M_add (z_M_add xs 456901681454) 465491093294) t).length), .ref a2, .int n2, .ref a3, .ref a4, .int n3])), (a1, .inl (gI g, 200, .inl md_161))]) [0, 1] rfl) (hD.sub (ws' := [(h0, .inr (4, [.ref a1, .int (nI (z_M_addOwn (z_M_add (z_M_add xs 456901681454) 465491093294) t).length), .ref a2, .int n2, .ref a3, .ref a4, .int n3])), (a1, .inl (gI g, 200, .inl md_161))]) [0, 1] rfl rfl) hS ⟨md_161, by rw [e], by rw [e]; exact hm_161, by rw [e]; omega, by rw [e]; omega⟩ (by first | exact Nat.le_of_ble_eq_true rfl | (dsimp only; omega) | omega) (by first | exact Nat.le_of_ble_eq_true rfl | (dsimp only; omega) | omega) d_M_addName_86
            · skip
              refine lv_aload_n hx hb d_M_addName_75 rfl (lv_at hl 0 rfl) ?_
              refine lv_bipush (v := 49) hx hb d_M_addName_76 (by decide) ?_
              refine go_v (wr := []) (run_V hF (c_M_one g l _ h0 a1 a2 a3 a4 n2 n3 (z_M_add (z_M_add xs 456901681454) 465491093294) md_144 hm_144 49 (by omega)) k_M_one j_M_79 se_M_M_one (va_recv hK hP (ci := 4) (q0 := 0) rfl rfl) (cw_down G hP hD hS hA [0, 1] rfl rfl) ⟨Nat.le_of_ble_eq_true rfl, Nat.le_of_ble_eq_true rfl⟩ rfl hl.1 (Nat.le_of_ble_eq_true rfl) d_M_addName_78 ⟨(by first | exact Nat.le_of_ble_eq_true rfl | (dsimp only; omega) | omega), (by first | exact Nat.le_of_ble_eq_true rfl | (dsimp only; omega) | omega)⟩) hP hD hS hA [0, 1] [] rfl rfl rfl (by decide) (fun w1 H locs hp hP hD hS => ?_)
              obtain ⟨md_163, rfl, hm_163, hn_163, hn_163b⟩ := hp
              have hP : va_P (gD g) classes [(h0, .inr (4, [.ref a1, .int (nI (z_M_one (z_M_add (z_M_add xs 456901681454) 465491093294) 49).length), .ref a2, .int n2, .ref a3, .ref a4, .int n3])), (a1, .inl (gI g, 200, .inl md_163))] H := hP
              have hD : va_D A [(h0, .inr (4, [.ref a1, .int (nI (z_M_one (z_M_add (z_M_add xs 456901681454) 465491093294) 49).length), .ref a2, .int n2, .ref a3, .ref a4, .int n3])), (a1, .inl (gI g, 200, .inl md_163))] := hD
              refine lv_aload_n hx hb d_M_addName_81 rfl (lv_at hl 0 rfl) ?_
              refine lv_iload_n hx hb d_M_addName_82 rfl (lv_at hl 1 rfl) ?_
              refine go_v (wr := []) (run_V hF (c_M_addOwn g l _ h0 a1 a2 a3 a4 n2 n3 (z_M_one (z_M_add (z_M_add xs 456901681454) 465491093294) 49) md_163 hm_163 t (by omega)) k_M_addOwn j_M_99 se_M_M_addOwn (va_recv hK hP (ci := 4) (q0 := 0) rfl rfl) (cw_down G hP hD hS hA [0, 1] rfl rfl) ⟨Nat.le_of_ble_eq_true rfl, Nat.le_of_ble_eq_true rfl⟩ rfl hl.1 (Nat.le_of_ble_eq_true rfl) d_M_addName_83 ⟨(by first | exact Nat.le_of_ble_eq_true rfl | (dsimp only; omega) | omega), (by first | exact Nat.le_of_ble_eq_true rfl | (dsimp only; omega) | omega)⟩) hP hD hS hA [0, 1] [] rfl rfl rfl (by decide) (fun w1 H locs hp hP hD hS => ?_)
              obtain ⟨md_165, rfl, hm_165, hn_165, hn_165b⟩ := hp
              have hP : va_P (gD g) classes [(h0, .inr (4, [.ref a1, .int (nI (z_M_addOwn (z_M_one (z_M_add (z_M_add xs 456901681454) 465491093294) 49) t).length), .ref a2, .int n2, .ref a3, .ref a4, .int n3])), (a1, .inl (gI g, 200, .inl md_165))] H := hP
              have hD : va_D A [(h0, .inr (4, [.ref a1, .int (nI (z_M_addOwn (z_M_one (z_M_add (z_M_add xs 456901681454) 465491093294) 49) t).length), .ref a2, .int n2, .ref a3, .ref a4, .int n3])), (a1, .inl (gI g, 200, .inl md_165))] := hD
              have e : z_M_addName xs t = (z_M_addOwn (z_M_one (z_M_add (z_M_add xs 456901681454) 465491093294) 49) t) := by rw [z_M_addName, if_neg c_1, if_pos c_73, if_pos c_145, if_neg c_146, if_neg c_158, if_pos c_159]
              exact ret_v hx hb hr hlk (hP.sub (ws' := [(h0, .inr (4, [.ref a1, .int (nI (z_M_addOwn (z_M_one (z_M_add (z_M_add xs 456901681454) 465491093294) 49) t).length), .ref a2, .int n2, .ref a3, .ref a4, .int n3])), (a1, .inl (gI g, 200, .inl md_165))]) [0, 1] rfl) (hD.sub (ws' := [(h0, .inr (4, [.ref a1, .int (nI (z_M_addOwn (z_M_one (z_M_add (z_M_add xs 456901681454) 465491093294) 49) t).length), .ref a2, .int n2, .ref a3, .ref a4, .int n3])), (a1, .inl (gI g, 200, .inl md_165))]) [0, 1] rfl rfl) hS ⟨md_165, by rw [e], by rw [e]; exact hm_165, by rw [e]; omega, by rw [e]; omega⟩ (by first | exact Nat.le_of_ble_eq_true rfl | (dsimp only; omega) | omega) (by first | exact Nat.le_of_ble_eq_true rfl | (dsimp only; omega) | omega) d_M_addName_86
          · skip
            refine lv_aload_n hx hb d_M_addName_56 rfl (lv_at hl 0 rfl) ?_
            refine lv_iload_n hx hb d_M_addName_57 rfl (lv_at hl 1 rfl) ?_
            refine lv_iconst (v := 1) hx hb d_M_addName_58 (by decide) ?_
            refine lv_isub hx hb d_M_addName_59 ?_
            refine go_v (wr := []) (run_V hF (c_M_addOwn g l _ h0 a1 a2 a3 a4 n2 n3 (z_M_add (z_M_add xs 456901681454) 465491093294) md_144 hm_144 (t - 1) (by omega)) k_M_addOwn j_M_99 se_M_M_addOwn (va_recv hK hP (ci := 4) (q0 := 0) rfl rfl) (cw_down G hP hD hS hA [0, 1] rfl rfl) ⟨Nat.le_of_ble_eq_true rfl, Nat.le_of_ble_eq_true rfl⟩ rfl hl.1 (Nat.le_of_ble_eq_true rfl) d_M_addName_60 ⟨(by first | exact Nat.le_of_ble_eq_true rfl | (dsimp only; omega) | omega), (by first | exact Nat.le_of_ble_eq_true rfl | (dsimp only; omega) | omega)⟩) hP hD hS hA [0, 1] [] rfl rfl rfl (by decide) (fun w1 H locs hp hP hD hS => ?_)
            obtain ⟨md_167, rfl, hm_167, hn_167, hn_167b⟩ := hp
            have hP : va_P (gD g) classes [(h0, .inr (4, [.ref a1, .int (nI (z_M_addOwn (z_M_add (z_M_add xs 456901681454) 465491093294) (t - 1)).length), .ref a2, .int n2, .ref a3, .ref a4, .int n3])), (a1, .inl (gI g, 200, .inl md_167))] H := hP
            have hD : va_D A [(h0, .inr (4, [.ref a1, .int (nI (z_M_addOwn (z_M_add (z_M_add xs 456901681454) 465491093294) (t - 1)).length), .ref a2, .int n2, .ref a3, .ref a4, .int n3])), (a1, .inl (gI g, 200, .inl md_167))] := hD
            refine lv_aload_n hx hb d_M_addName_63 rfl (lv_at hl 0 rfl) ?_
            refine lv_bipush (v := 36) hx hb d_M_addName_64 (by decide) ?_
            refine go_v (wr := []) (run_V hF (c_M_one g l _ h0 a1 a2 a3 a4 n2 n3 (z_M_addOwn (z_M_add (z_M_add xs 456901681454) 465491093294) (t - 1)) md_167 hm_167 36 (by omega)) k_M_one j_M_79 se_M_M_one (va_recv hK hP (ci := 4) (q0 := 0) rfl rfl) (cw_down G hP hD hS hA [0, 1] rfl rfl) ⟨Nat.le_of_ble_eq_true rfl, Nat.le_of_ble_eq_true rfl⟩ rfl hl.1 (Nat.le_of_ble_eq_true rfl) d_M_addName_66 ⟨(by first | exact Nat.le_of_ble_eq_true rfl | (dsimp only; omega) | omega), (by first | exact Nat.le_of_ble_eq_true rfl | (dsimp only; omega) | omega)⟩) hP hD hS hA [0, 1] [] rfl rfl rfl (by decide) (fun w1 H locs hp hP hD hS => ?_)
            obtain ⟨md_169, rfl, hm_169, hn_169, hn_169b⟩ := hp
            have hP : va_P (gD g) classes [(h0, .inr (4, [.ref a1, .int (nI (z_M_one (z_M_addOwn (z_M_add (z_M_add xs 456901681454) 465491093294) (t - 1)) 36).length), .ref a2, .int n2, .ref a3, .ref a4, .int n3])), (a1, .inl (gI g, 200, .inl md_169))] H := hP
            have hD : va_D A [(h0, .inr (4, [.ref a1, .int (nI (z_M_one (z_M_addOwn (z_M_add (z_M_add xs 456901681454) 465491093294) (t - 1)) 36).length), .ref a2, .int n2, .ref a3, .ref a4, .int n3])), (a1, .inl (gI g, 200, .inl md_169))] := hD
            refine lv_iload_n hx hb d_M_addName_69 rfl (lv_at hl 1 rfl) ?_
            refine lv_bipush (v := 23) hx hb d_M_addName_70 (by decide) ?_
            refine lv_icmp_ne (tgt := 81) hx hb d_M_addName_72 (by decide) (fun c_170 => ?_) (fun c_170 => ?_)
            · skip
              refine lv_aload_n hx hb d_M_addName_81 rfl (lv_at hl 0 rfl) ?_
              refine lv_iload_n hx hb d_M_addName_82 rfl (lv_at hl 1 rfl) ?_
              refine go_v (wr := []) (run_V hF (c_M_addOwn g l _ h0 a1 a2 a3 a4 n2 n3 (z_M_one (z_M_addOwn (z_M_add (z_M_add xs 456901681454) 465491093294) (t - 1)) 36) md_169 hm_169 t (by omega)) k_M_addOwn j_M_99 se_M_M_addOwn (va_recv hK hP (ci := 4) (q0 := 0) rfl rfl) (cw_down G hP hD hS hA [0, 1] rfl rfl) ⟨Nat.le_of_ble_eq_true rfl, Nat.le_of_ble_eq_true rfl⟩ rfl hl.1 (Nat.le_of_ble_eq_true rfl) d_M_addName_83 ⟨(by first | exact Nat.le_of_ble_eq_true rfl | (dsimp only; omega) | omega), (by first | exact Nat.le_of_ble_eq_true rfl | (dsimp only; omega) | omega)⟩) hP hD hS hA [0, 1] [] rfl rfl rfl (by decide) (fun w1 H locs hp hP hD hS => ?_)
              obtain ⟨md_172, rfl, hm_172, hn_172, hn_172b⟩ := hp
              have hP : va_P (gD g) classes [(h0, .inr (4, [.ref a1, .int (nI (z_M_addOwn (z_M_one (z_M_addOwn (z_M_add (z_M_add xs 456901681454) 465491093294) (t - 1)) 36) t).length), .ref a2, .int n2, .ref a3, .ref a4, .int n3])), (a1, .inl (gI g, 200, .inl md_172))] H := hP
              have hD : va_D A [(h0, .inr (4, [.ref a1, .int (nI (z_M_addOwn (z_M_one (z_M_addOwn (z_M_add (z_M_add xs 456901681454) 465491093294) (t - 1)) 36) t).length), .ref a2, .int n2, .ref a3, .ref a4, .int n3])), (a1, .inl (gI g, 200, .inl md_172))] := hD
              have e : z_M_addName xs t = (z_M_addOwn (z_M_one (z_M_addOwn (z_M_add (z_M_add xs 456901681454) 465491093294) (t - 1)) 36) t) := by rw [z_M_addName, if_neg c_1, if_pos c_73, if_pos c_145, if_neg c_146, if_pos c_158, if_neg c_170]
              exact ret_v hx hb hr hlk (hP.sub (ws' := [(h0, .inr (4, [.ref a1, .int (nI (z_M_addOwn (z_M_one (z_M_addOwn (z_M_add (z_M_add xs 456901681454) 465491093294) (t - 1)) 36) t).length), .ref a2, .int n2, .ref a3, .ref a4, .int n3])), (a1, .inl (gI g, 200, .inl md_172))]) [0, 1] rfl) (hD.sub (ws' := [(h0, .inr (4, [.ref a1, .int (nI (z_M_addOwn (z_M_one (z_M_addOwn (z_M_add (z_M_add xs 456901681454) 465491093294) (t - 1)) 36) t).length), .ref a2, .int n2, .ref a3, .ref a4, .int n3])), (a1, .inl (gI g, 200, .inl md_172))]) [0, 1] rfl rfl) hS ⟨md_172, by rw [e], by rw [e]; exact hm_172, by rw [e]; omega, by rw [e]; omega⟩ (by first | exact Nat.le_of_ble_eq_true rfl | (dsimp only; omega) | omega) (by first | exact Nat.le_of_ble_eq_true rfl | (dsimp only; omega) | omega) d_M_addName_86
            · skip
              refine lv_aload_n hx hb d_M_addName_75 rfl (lv_at hl 0 rfl) ?_
              refine lv_bipush (v := 49) hx hb d_M_addName_76 (by decide) ?_
              refine go_v (wr := []) (run_V hF (c_M_one g l _ h0 a1 a2 a3 a4 n2 n3 (z_M_one (z_M_addOwn (z_M_add (z_M_add xs 456901681454) 465491093294) (t - 1)) 36) md_169 hm_169 49 (by omega)) k_M_one j_M_79 se_M_M_one (va_recv hK hP (ci := 4) (q0 := 0) rfl rfl) (cw_down G hP hD hS hA [0, 1] rfl rfl) ⟨Nat.le_of_ble_eq_true rfl, Nat.le_of_ble_eq_true rfl⟩ rfl hl.1 (Nat.le_of_ble_eq_true rfl) d_M_addName_78 ⟨(by first | exact Nat.le_of_ble_eq_true rfl | (dsimp only; omega) | omega), (by first | exact Nat.le_of_ble_eq_true rfl | (dsimp only; omega) | omega)⟩) hP hD hS hA [0, 1] [] rfl rfl rfl (by decide) (fun w1 H locs hp hP hD hS => ?_)
              obtain ⟨md_174, rfl, hm_174, hn_174, hn_174b⟩ := hp
              have hP : va_P (gD g) classes [(h0, .inr (4, [.ref a1, .int (nI (z_M_one (z_M_one (z_M_addOwn (z_M_add (z_M_add xs 456901681454) 465491093294) (t - 1)) 36) 49).length), .ref a2, .int n2, .ref a3, .ref a4, .int n3])), (a1, .inl (gI g, 200, .inl md_174))] H := hP
              have hD : va_D A [(h0, .inr (4, [.ref a1, .int (nI (z_M_one (z_M_one (z_M_addOwn (z_M_add (z_M_add xs 456901681454) 465491093294) (t - 1)) 36) 49).length), .ref a2, .int n2, .ref a3, .ref a4, .int n3])), (a1, .inl (gI g, 200, .inl md_174))] := hD
              refine lv_aload_n hx hb d_M_addName_81 rfl (lv_at hl 0 rfl) ?_
              refine lv_iload_n hx hb d_M_addName_82 rfl (lv_at hl 1 rfl) ?_
              refine go_v (wr := []) (run_V hF (c_M_addOwn g l _ h0 a1 a2 a3 a4 n2 n3 (z_M_one (z_M_one (z_M_addOwn (z_M_add (z_M_add xs 456901681454) 465491093294) (t - 1)) 36) 49) md_174 hm_174 t (by omega)) k_M_addOwn j_M_99 se_M_M_addOwn (va_recv hK hP (ci := 4) (q0 := 0) rfl rfl) (cw_down G hP hD hS hA [0, 1] rfl rfl) ⟨Nat.le_of_ble_eq_true rfl, Nat.le_of_ble_eq_true rfl⟩ rfl hl.1 (Nat.le_of_ble_eq_true rfl) d_M_addName_83 ⟨(by first | exact Nat.le_of_ble_eq_true rfl | (dsimp only; omega) | omega), (by first | exact Nat.le_of_ble_eq_true rfl | (dsimp only; omega) | omega)⟩) hP hD hS hA [0, 1] [] rfl rfl rfl (by decide) (fun w1 H locs hp hP hD hS => ?_)
              obtain ⟨md_176, rfl, hm_176, hn_176, hn_176b⟩ := hp
              have hP : va_P (gD g) classes [(h0, .inr (4, [.ref a1, .int (nI (z_M_addOwn (z_M_one (z_M_one (z_M_addOwn (z_M_add (z_M_add xs 456901681454) 465491093294) (t - 1)) 36) 49) t).length), .ref a2, .int n2, .ref a3, .ref a4, .int n3])), (a1, .inl (gI g, 200, .inl md_176))] H := hP
              have hD : va_D A [(h0, .inr (4, [.ref a1, .int (nI (z_M_addOwn (z_M_one (z_M_one (z_M_addOwn (z_M_add (z_M_add xs 456901681454) 465491093294) (t - 1)) 36) 49) t).length), .ref a2, .int n2, .ref a3, .ref a4, .int n3])), (a1, .inl (gI g, 200, .inl md_176))] := hD
              have e : z_M_addName xs t = (z_M_addOwn (z_M_one (z_M_one (z_M_addOwn (z_M_add (z_M_add xs 456901681454) 465491093294) (t - 1)) 36) 49) t) := by rw [z_M_addName, if_neg c_1, if_pos c_73, if_pos c_145, if_neg c_146, if_pos c_158, if_pos c_170]
              exact ret_v hx hb hr hlk (hP.sub (ws' := [(h0, .inr (4, [.ref a1, .int (nI (z_M_addOwn (z_M_one (z_M_one (z_M_addOwn (z_M_add (z_M_add xs 456901681454) 465491093294) (t - 1)) 36) 49) t).length), .ref a2, .int n2, .ref a3, .ref a4, .int n3])), (a1, .inl (gI g, 200, .inl md_176))]) [0, 1] rfl) (hD.sub (ws' := [(h0, .inr (4, [.ref a1, .int (nI (z_M_addOwn (z_M_one (z_M_one (z_M_addOwn (z_M_add (z_M_add xs 456901681454) 465491093294) (t - 1)) 36) 49) t).length), .ref a2, .int n2, .ref a3, .ref a4, .int n3])), (a1, .inl (gI g, 200, .inl md_176))]) [0, 1] rfl rfl) hS ⟨md_176, by rw [e], by rw [e]; exact hm_176, by rw [e]; omega, by rw [e]; omega⟩ (by first | exact Nat.le_of_ble_eq_true rfl | (dsimp only; omega) | omega) (by first | exact Nat.le_of_ble_eq_true rfl | (dsimp only; omega) | omega) d_M_addName_86
      · skip
        refine lv_aload_n hx hb d_M_addName_32 rfl (lv_at hl 0 rfl) ?_
        refine lv_bipush (v := 11) hx hb d_M_addName_33 (by decide) ?_
        refine go_v (wr := []) (run_V hF (c_M_addOwn g l _ h0 a1 a2 a3 a4 n2 n3 (z_M_add (z_M_add xs 456901681454) 465491093294) md_144 hm_144 11 (by omega)) k_M_addOwn j_M_99 se_M_M_addOwn (va_recv hK hP (ci := 4) (q0 := 0) rfl rfl) (cw_down G hP hD hS hA [0, 1] rfl rfl) ⟨Nat.le_of_ble_eq_true rfl, Nat.le_of_ble_eq_true rfl⟩ rfl hl.1 (Nat.le_of_ble_eq_true rfl) d_M_addName_35 ⟨(by first | exact Nat.le_of_ble_eq_true rfl | (dsimp only; omega) | omega), (by first | exact Nat.le_of_ble_eq_true rfl | (dsimp only; omega) | omega)⟩) hP hD hS hA [0, 1] [] rfl rfl rfl (by decide) (fun w1 H locs hp hP hD hS => ?_)
        obtain ⟨md_178, rfl, hm_178, hn_178, hn_178b⟩ := hp
        have hP : va_P (gD g) classes [(h0, .inr (4, [.ref a1, .int (nI (z_M_addOwn (z_M_add (z_M_add xs 456901681454) 465491093294) 11).length), .ref a2, .int n2, .ref a3, .ref a4, .int n3])), (a1, .inl (gI g, 200, .inl md_178))] H := hP
        have hD : va_D A [(h0, .inr (4, [.ref a1, .int (nI (z_M_addOwn (z_M_add (z_M_add xs 456901681454) 465491093294) 11).length), .ref a2, .int n2, .ref a3, .ref a4, .int n3])), (a1, .inl (gI g, 200, .inl md_178))] := hD
        refine lv_aload_n hx hb d_M_addName_38 rfl (lv_at hl 0 rfl) ?_
        refine lv_bipush (v := 36) hx hb d_M_addName_39 (by decide) ?_
        refine go_v (wr := []) (run_V hF (c_M_one g l _ h0 a1 a2 a3 a4 n2 n3 (z_M_addOwn (z_M_add (z_M_add xs 456901681454) 465491093294) 11) md_178 hm_178 36 (by omega)) k_M_one j_M_79 se_M_M_one (va_recv hK hP (ci := 4) (q0 := 0) rfl rfl) (cw_down G hP hD hS hA [0, 1] rfl rfl) ⟨Nat.le_of_ble_eq_true rfl, Nat.le_of_ble_eq_true rfl⟩ rfl hl.1 (Nat.le_of_ble_eq_true rfl) d_M_addName_41 ⟨(by first | exact Nat.le_of_ble_eq_true rfl | (dsimp only; omega) | omega), (by first | exact Nat.le_of_ble_eq_true rfl | (dsimp only; omega) | omega)⟩) hP hD hS hA [0, 1] [] rfl rfl rfl (by decide) (fun w1 H locs hp hP hD hS => ?_)
        obtain ⟨md_180, rfl, hm_180, hn_180, hn_180b⟩ := hp
        have hP : va_P (gD g) classes [(h0, .inr (4, [.ref a1, .int (nI (z_M_one (z_M_addOwn (z_M_add (z_M_add xs 456901681454) 465491093294) 11) 36).length), .ref a2, .int n2, .ref a3, .ref a4, .int n3])), (a1, .inl (gI g, 200, .inl md_180))] H := hP
        have hD : va_D A [(h0, .inr (4, [.ref a1, .int (nI (z_M_one (z_M_addOwn (z_M_add (z_M_add xs 456901681454) 465491093294) 11) 36).length), .ref a2, .int n2, .ref a3, .ref a4, .int n3])), (a1, .inl (gI g, 200, .inl md_180))] := hD
        refine lv_iload_n hx hb d_M_addName_44 rfl (lv_at hl 1 rfl) ?_
        refine lv_bipush (v := 17) hx hb d_M_addName_45 (by decide) ?_
        refine lv_icmp_eq (tgt := 56) hx hb d_M_addName_47 (by decide) (fun c_181 => ?_) (fun c_181 => ?_)
        · skip
          refine lv_aload_n hx hb d_M_addName_56 rfl (lv_at hl 0 rfl) ?_
          refine lv_iload_n hx hb d_M_addName_57 rfl (lv_at hl 1 rfl) ?_
          refine lv_iconst (v := 1) hx hb d_M_addName_58 (by decide) ?_
          refine lv_isub hx hb d_M_addName_59 ?_
          refine go_v (wr := []) (run_V hF (c_M_addOwn g l _ h0 a1 a2 a3 a4 n2 n3 (z_M_one (z_M_addOwn (z_M_add (z_M_add xs 456901681454) 465491093294) 11) 36) md_180 hm_180 (t - 1) (by omega)) k_M_addOwn j_M_99 se_M_M_addOwn (va_recv hK hP (ci := 4) (q0 := 0) rfl rfl) (cw_down G hP hD hS hA [0, 1] rfl rfl) ⟨Nat.le_of_ble_eq_true rfl, Nat.le_of_ble_eq_true rfl⟩ rfl hl.1 (Nat.le_of_ble_eq_true rfl) d_M_addName_60 ⟨(by first | exact Nat.le_of_ble_eq_true rfl | (dsimp only; omega) | omega), (by first | exact Nat.le_of_ble_eq_true rfl | (dsimp only; omega) | omega)⟩) hP hD hS hA [0, 1] [] rfl rfl rfl (by decide) (fun w1 H locs hp hP hD hS => ?_)
          obtain ⟨md_183, rfl, hm_183, hn_183, hn_183b⟩ := hp
          have hP : va_P (gD g) classes [(h0, .inr (4, [.ref a1, .int (nI (z_M_addOwn (z_M_one (z_M_addOwn (z_M_add (z_M_add xs 456901681454) 465491093294) 11) 36) (t - 1)).length), .ref a2, .int n2, .ref a3, .ref a4, .int n3])), (a1, .inl (gI g, 200, .inl md_183))] H := hP
          have hD : va_D A [(h0, .inr (4, [.ref a1, .int (nI (z_M_addOwn (z_M_one (z_M_addOwn (z_M_add (z_M_add xs 456901681454) 465491093294) 11) 36) (t - 1)).length), .ref a2, .int n2, .ref a3, .ref a4, .int n3])), (a1, .inl (gI g, 200, .inl md_183))] := hD
          refine lv_aload_n hx hb d_M_addName_63 rfl (lv_at hl 0 rfl) ?_
          refine lv_bipush (v := 36) hx hb d_M_addName_64 (by decide) ?_
          refine go_v (wr := []) (run_V hF (c_M_one g l _ h0 a1 a2 a3 a4 n2 n3 (z_M_addOwn (z_M_one (z_M_addOwn (z_M_add (z_M_add xs 456901681454) 465491093294) 11) 36) (t - 1)) md_183 hm_183 36 (by omega)) k_M_one j_M_79 se_M_M_one (va_recv hK hP (ci := 4) (q0 := 0) rfl rfl) (cw_down G hP hD hS hA [0, 1] rfl rfl) ⟨Nat.le_of_ble_eq_true rfl, Nat.le_of_ble_eq_true rfl⟩ rfl hl.1 (Nat.le_of_ble_eq_true rfl) d_M_addName_66 ⟨(by first | exact Nat.le_of_ble_eq_true rfl | (dsimp only; omega) | omega), (by first | exact Nat.le_of_ble_eq_true rfl | (dsimp only; omega) | omega)⟩) hP hD hS hA [0, 1] [] rfl rfl rfl (by decide) (fun w1 H locs hp hP hD hS => ?_)
          obtain ⟨md_185, rfl, hm_185, hn_185, hn_185b⟩ := hp
          have hP : va_P (gD g) classes [(h0, .inr (4, [.ref a1, .int (nI (z_M_one (z_M_addOwn (z_M_one (z_M_addOwn (z_M_add (z_M_add xs 456901681454) 465491093294) 11) 36) (t - 1)) 36).length), .ref a2, .int n2, .ref a3, .ref a4, .int n3])), (a1, .inl (gI g, 200, .inl md_185))] H := hP
          have hD : va_D A [(h0, .inr (4, [.ref a1, .int (nI (z_M_one (z_M_addOwn (z_M_one (z_M_addOwn (z_M_add (z_M_add xs 456901681454) 465491093294) 11) 36) (t - 1)) 36).length), .ref a2, .int n2, .ref a3, .ref a4, .int n3])), (a1, .inl (gI g, 200, .inl md_185))] := hD
          refine lv_iload_n hx hb d_M_addName_69 rfl (lv_at hl 1 rfl) ?_
          refine lv_bipush (v := 23) hx hb d_M_addName_70 (by decide) ?_
          refine lv_icmp_ne (tgt := 81) hx hb d_M_addName_72 (by decide) (fun c_186 => ?_) (fun c_186 => ?_)
          · skip
            refine lv_aload_n hx hb d_M_addName_81 rfl (lv_at hl 0 rfl) ?_
            refine lv_iload_n hx hb d_M_addName_82 rfl (lv_at hl 1 rfl) ?_
            refine go_v (wr := []) (run_V hF (c_M_addOwn g l _ h0 a1 a2 a3 a4 n2 n3 (z_M_one (z_M_addOwn (z_M_one (z_M_addOwn (z_M_add (z_M_add xs 456901681454) 465491093294) 11) 36) (t - 1)) 36) md_185 hm_185 t (by omega)) k_M_addOwn j_M_99 se_M_M_addOwn (va_recv hK hP (ci := 4) (q0 := 0) rfl rfl) (cw_down G hP hD hS hA [0, 1] rfl rfl) ⟨Nat.le_of_ble_eq_true rfl, Nat.le_of_ble_eq_true rfl⟩ rfl hl.1 (Nat.le_of_ble_eq_true rfl) d_M_addName_83 ⟨(by first | exact Nat.le_of_ble_eq_true rfl | (dsimp only; omega) | omega), (by first | exact Nat.le_of_ble_eq_true rfl | (dsimp only; omega) | omega)⟩) hP hD hS hA [0, 1] [] rfl rfl rfl (by decide) (fun w1 H locs hp hP hD hS => ?_)
            obtain ⟨md_188, rfl, hm_188, hn_188, hn_188b⟩ := hp
            have hP : va_P (gD g) classes [(h0, .inr (4, [.ref a1, .int (nI (z_M_addOwn (z_M_one (z_M_addOwn (z_M_one (z_M_addOwn (z_M_add (z_M_add xs 456901681454) 465491093294) 11) 36) (t - 1)) 36) t).length), .ref a2, .int n2, .ref a3, .ref a4, .int n3])), (a1, .inl (gI g, 200, .inl md_188))] H := hP
            have hD : va_D A [(h0, .inr (4, [.ref a1, .int (nI (z_M_addOwn (z_M_one (z_M_addOwn (z_M_one (z_M_addOwn (z_M_add (z_M_add xs 456901681454) 465491093294) 11) 36) (t - 1)) 36) t).length), .ref a2, .int n2, .ref a3, .ref a4, .int n3])), (a1, .inl (gI g, 200, .inl md_188))] := hD
            have e : z_M_addName xs t = (z_M_addOwn (z_M_one (z_M_addOwn (z_M_one (z_M_addOwn (z_M_add (z_M_add xs 456901681454) 465491093294) 11) 36) (t - 1)) 36) t) := by rw [z_M_addName, if_neg c_1, if_pos c_73, if_neg c_145, if_pos c_181, if_neg c_186]
            exact ret_v hx hb hr hlk (hP.sub (ws' := [(h0, .inr (4, [.ref a1, .int (nI (z_M_addOwn (z_M_one (z_M_addOwn (z_M_one (z_M_addOwn (z_M_add (z_M_add xs 456901681454) 465491093294) 11) 36) (t - 1)) 36) t).length), .ref a2, .int n2, .ref a3, .ref a4, .int n3])), (a1, .inl (gI g, 200, .inl md_188))]) [0, 1] rfl) (hD.sub (ws' := [(h0, .inr (4, [.ref a1, .int (nI (z_M_addOwn (z_M_one (z_M_addOwn (z_M_one (z_M_addOwn (z_M_add (z_M_add xs 456901681454) 465491093294) 11) 36) (t - 1)) 36) t).length), .ref a2, .int n2, .ref a3, .ref a4, .int n3])), (a1, .inl (gI g, 200, .inl md_188))]) [0, 1] rfl rfl) hS ⟨md_188, by rw [e], by rw [e]; exact hm_188, by rw [e]; omega, by rw [e]; omega⟩ (by first | exact Nat.le_of_ble_eq_true rfl | (dsimp only; omega) | omega) (by first | exact Nat.le_of_ble_eq_true rfl | (dsimp only; omega) | omega) d_M_addName_86
          · skip
            refine lv_aload_n hx hb d_M_addName_75 rfl (lv_at hl 0 rfl) ?_
            refine lv_bipush (v := 49) hx hb d_M_addName_76 (by decide) ?_
            refine go_v (wr := []) (run_V hF (c_M_one g l _ h0 a1 a2 a3 a4 n2 n3 (z_M_one (z_M_addOwn (z_M_one (z_M_addOwn (z_M_add (z_M_add xs 456901681454) 465491093294) 11) 36) (t - 1)) 36) md_185 hm_185 49 (by omega)) k_M_one j_M_79 se_M_M_one (va_recv hK hP (ci := 4) (q0 := 0) rfl rfl) (cw_down G hP hD hS hA [0, 1] rfl rfl) ⟨Nat.le_of_ble_eq_true rfl, Nat.le_of_ble_eq_true rfl⟩ rfl hl.1 (Nat.le_of_ble_eq_true rfl) d_M_addName_78 ⟨(by first | exact Nat.le_of_ble_eq_true rfl | (dsimp only; omega) | omega), (by first | exact Nat.le_of_ble_eq_true rfl | (dsimp only; omega) | omega)⟩) hP hD hS hA [0, 1] [] rfl rfl rfl (by decide) (fun w1 H locs hp hP hD hS => ?_)
            obtain ⟨md_190, rfl, hm_190, hn_190, hn_190b⟩ := hp
            have hP : va_P (gD g) classes [(h0, .inr (4, [.ref a1, .int (nI (z_M_one (z_M_one (z_M_addOwn (z_M_one (z_M_addOwn (z_M_add (z_M_add xs 456901681454) 465491093294) 11) 36) (t - 1)) 36) 49).length), .ref a2, .int n2, .ref a3, .ref a4, .int n3])), (a1, .inl (gI g, 200, .inl md_190))] H := hP
            have hD : va_D A [(h0, .inr (4, [.ref a1, .int (nI (z_M_one (z_M_one (z_M_addOwn (z_M_one (z_M_addOwn (z_M_add (z_M_add xs 456901681454) 465491093294) 11) 36) (t - 1)) 36) 49).length), .ref a2, .int n2, .ref a3, .ref a4, .int n3])), (a1, .inl (gI g, 200, .inl md_190))] := hD
            refine lv_aload_n hx hb d_M_addName_81 rfl (lv_at hl 0 rfl) ?_
            refine lv_iload_n hx hb d_M_addName_82 rfl (lv_at hl 1 rfl) ?_
            refine go_v (wr := []) (run_V hF (c_M_addOwn g l _ h0 a1 a2 a3 a4 n2 n3 (z_M_one (z_M_one (z_M_addOwn (z_M_one (z_M_addOwn (z_M_add (z_M_add xs 456901681454) 465491093294) 11) 36) (t - 1)) 36) 49) md_190 hm_190 t (by omega)) k_M_addOwn j_M_99 se_M_M_addOwn (va_recv hK hP (ci := 4) (q0 := 0) rfl rfl) (cw_down G hP hD hS hA [0, 1] rfl rfl) ⟨Nat.le_of_ble_eq_true rfl, Nat.le_of_ble_eq_true rfl⟩ rfl hl.1 (Nat.le_of_ble_eq_true rfl) d_M_addName_83 ⟨(by first | exact Nat.le_of_ble_eq_true rfl | (dsimp only; omega) | omega), (by first | exact Nat.le_of_ble_eq_true rfl | (dsimp only; omega) | omega)⟩) hP hD hS hA [0, 1] [] rfl rfl rfl (by decide) (fun w1 H locs hp hP hD hS => ?_)
            obtain ⟨md_192, rfl, hm_192, hn_192, hn_192b⟩ := hp
            have hP : va_P (gD g) classes [(h0, .inr (4, [.ref a1, .int (nI (z_M_addOwn (z_M_one (z_M_one (z_M_addOwn (z_M_one (z_M_addOwn (z_M_add (z_M_add xs 456901681454) 465491093294) 11) 36) (t - 1)) 36) 49) t).length), .ref a2, .int n2, .ref a3, .ref a4, .int n3])), (a1, .inl (gI g, 200, .inl md_192))] H := hP
            have hD : va_D A [(h0, .inr (4, [.ref a1, .int (nI (z_M_addOwn (z_M_one (z_M_one (z_M_addOwn (z_M_one (z_M_addOwn (z_M_add (z_M_add xs 456901681454) 465491093294) 11) 36) (t - 1)) 36) 49) t).length), .ref a2, .int n2, .ref a3, .ref a4, .int n3])), (a1, .inl (gI g, 200, .inl md_192))] := hD
            have e : z_M_addName xs t = (z_M_addOwn (z_M_one (z_M_one (z_M_addOwn (z_M_one (z_M_addOwn (z_M_add (z_M_add xs 456901681454) 465491093294) 11) 36) (t - 1)) 36) 49) t) := by rw [z_M_addName, if_neg c_1, if_pos c_73, if_neg c_145, if_pos c_181, if_pos c_186]
            exact ret_v hx hb hr hlk (hP.sub (ws' := [(h0, .inr (4, [.ref a1, .int (nI (z_M_addOwn (z_M_one (z_M_one (z_M_addOwn (z_M_one (z_M_addOwn (z_M_add (z_M_add xs 456901681454) 465491093294) 11) 36) (t - 1)) 36) 49) t).length), .ref a2, .int n2, .ref a3, .ref a4, .int n3])), (a1, .inl (gI g, 200, .inl md_192))]) [0, 1] rfl) (hD.sub (ws' := [(h0, .inr (4, [.ref a1, .int (nI (z_M_addOwn (z_M_one (z_M_one (z_M_addOwn (z_M_one (z_M_addOwn (z_M_add (z_M_add xs 456901681454) 465491093294) 11) 36) (t - 1)) 36) 49) t).length), .ref a2, .int n2, .ref a3, .ref a4, .int n3])), (a1, .inl (gI g, 200, .inl md_192))]) [0, 1] rfl rfl) hS ⟨md_192, by rw [e], by rw [e]; exact hm_192, by rw [e]; omega, by rw [e]; omega⟩ (by first | exact Nat.le_of_ble_eq_true rfl | (dsimp only; omega) | omega) (by first | exact Nat.le_of_ble_eq_true rfl | (dsimp only; omega) | omega) d_M_addName_86
        · skip
          refine lv_iload_n hx hb d_M_addName_50 rfl (lv_at hl 1 rfl) ?_
          refine lv_bipush (v := 19) hx hb d_M_addName_51 (by decide) ?_
          refine lv_icmp_ne (tgt := 69) hx hb d_M_addName_53 (by decide) (fun c_193 => ?_) (fun c_193 => ?_)
          · skip
            refine lv_iload_n hx hb d_M_addName_69 rfl (lv_at hl 1 rfl) ?_
            refine lv_bipush (v := 23) hx hb d_M_addName_70 (by decide) ?_
            refine lv_icmp_ne (tgt := 81) hx hb d_M_addName_72 (by decide) (fun c_194 => ?_) (fun c_194 => ?_)
            · skip
              refine lv_aload_n hx hb d_M_addName_81 rfl (lv_at hl 0 rfl) ?_
              refine lv_iload_n hx hb d_M_addName_82 rfl (lv_at hl 1 rfl) ?_
              refine go_v (wr := []) (run_V hF (c_M_addOwn g l _ h0 a1 a2 a3 a4 n2 n3 (z_M_one (z_M_addOwn (z_M_add (z_M_add xs 456901681454) 465491093294) 11) 36) md_180 hm_180 t (by omega)) k_M_addOwn j_M_99 se_M_M_addOwn (va_recv hK hP (ci := 4) (q0 := 0) rfl rfl) (cw_down G hP hD hS hA [0, 1] rfl rfl) ⟨Nat.le_of_ble_eq_true rfl, Nat.le_of_ble_eq_true rfl⟩ rfl hl.1 (Nat.le_of_ble_eq_true rfl) d_M_addName_83 ⟨(by first | exact Nat.le_of_ble_eq_true rfl | (dsimp only; omega) | omega), (by first | exact Nat.le_of_ble_eq_true rfl | (dsimp only; omega) | omega)⟩) hP hD hS hA [0, 1] [] rfl rfl rfl (by decide) (fun w1 H locs hp hP hD hS => ?_)
              obtain ⟨md_196, rfl, hm_196, hn_196, hn_196b⟩ := hp
              have hP : va_P (gD g) classes [(h0, .inr (4, [.ref a1, .int (nI (z_M_addOwn (z_M_one (z_M_addOwn (z_M_add (z_M_add xs 456901681454) 465491093294) 11) 36) t).length), .ref a2, .int n2, .ref a3, .ref a4, .int n3])), (a1, .inl (gI g, 200, .inl md_196))] H := hP
              have hD : va_D A [(h0, .inr (4, [.ref a1, .int (nI (z_M_addOwn (z_M_one (z_M_addOwn (z_M_add (z_M_add xs 456901681454) 465491093294) 11) 36) t).length), .ref a2, .int n2, .ref a3, .ref a4, .int n3])), (a1, .inl (gI g, 200, .inl md_196))] := hD
              have e : z_M_addName xs t = (z_M_addOwn (z_M_one (z_M_addOwn (z_M_add (z_M_add xs 456901681454) 465491093294) 11) 36) t) := by rw [z_M_addName, if_neg c_1, if_pos c_73, if_neg c_145, if_neg c_181, if_neg c_193, if_neg c_194]
              exact ret_v hx hb hr hlk (hP.sub (ws' := [(h0, .inr (4, [.ref a1, .int (nI (z_M_addOwn (z_M_one (z_M_addOwn (z_M_add (z_M_add xs 456901681454) 465491093294) 11) 36) t).length), .ref a2, .int n2, .ref a3, .ref a4, .int n3])), (a1, .inl (gI g, 200, .inl md_196))]) [0, 1] rfl) (hD.sub (ws' := [(h0, .inr (4, [.ref a1, .int (nI (z_M_addOwn (z_M_one (z_M_addOwn (z_M_add (z_M_add xs 456901681454) 465491093294) 11) 36) t).length), .ref a2, .int n2, .ref a3, .ref a4, .int n3])), (a1, .inl (gI g, 200, .inl md_196))]) [0, 1] rfl rfl) hS ⟨md_196, by rw [e], by rw [e]; exact hm_196, by rw [e]; omega, by rw [e]; omega⟩ (by first | exact Nat.le_of_ble_eq_true rfl | (dsimp only; omega) | omega) (by first | exact Nat.le_of_ble_eq_true rfl | (dsimp only; omega) | omega) d_M_addName_86
            · skip
              refine lv_aload_n hx hb d_M_addName_75 rfl (lv_at hl 0 rfl) ?_
              refine lv_bipush (v := 49) hx hb d_M_addName_76 (by decide) ?_
              refine go_v (wr := []) (run_V hF (c_M_one g l _ h0 a1 a2 a3 a4 n2 n3 (z_M_one (z_M_addOwn (z_M_add (z_M_add xs 456901681454) 465491093294) 11) 36) md_180 hm_180 49 (by omega)) k_M_one j_M_79 se_M_M_one (va_recv hK hP (ci := 4) (q0 := 0) rfl rfl) (cw_down G hP hD hS hA [0, 1] rfl rfl) ⟨Nat.le_of_ble_eq_true rfl, Nat.le_of_ble_eq_true rfl⟩ rfl hl.1 (Nat.le_of_ble_eq_true rfl) d_M_addName_78 ⟨(by first | exact Nat.le_of_ble_eq_true rfl | (dsimp only; omega) | omega), (by first | exact Nat.le_of_ble_eq_true rfl | (dsimp only; omega) | omega)⟩) hP hD hS hA [0, 1] [] rfl rfl rfl (by decide) (fun w1 H locs hp hP hD hS => ?_)
              obtain ⟨md_198, rfl, hm_198, hn_198, hn_198b⟩ := hp
              have hP : va_P (gD g) classes [(h0, .inr (4, [.ref a1, .int (nI (z_M_one (z_M_one (z_M_addOwn (z_M_add (z_M_add xs 456901681454) 465491093294) 11) 36) 49).length), .ref a2, .int n2, .ref a3, .ref a4, .int n3])), (a1, .inl (gI g, 200, .inl md_198))] H := hP
              have hD : va_D A [(h0, .inr (4, [.ref a1, .int (nI (z_M_one (z_M_one (z_M_addOwn (z_M_add (z_M_add xs 456901681454) 465491093294) 11) 36) 49).length), .ref a2, .int n2, .ref a3, .ref a4, .int n3])), (a1, .inl (gI g, 200, .inl md_198))] := hD
              refine lv_aload_n hx hb d_M_addName_81 rfl (lv_at hl 0 rfl) ?_
              refine lv_iload_n hx hb d_M_addName_82 rfl (lv_at hl 1 rfl) ?_
              refine go_v (wr := []) (run_V hF (c_M_addOwn g l _ h0 a1 a2 a3 a4 n2 n3 (z_M_one (z_M_one (z_M_addOwn (z_M_add (z_M_add xs 456901681454) 465491093294) 11) 36) 49) md_198 hm_198 t (by omega)) k_M_addOwn j_M_99 se_M_M_addOwn (va_recv hK hP (ci := 4) (q0 := 0) rfl rfl) (cw_down G hP hD hS hA [0, 1] rfl rfl) ⟨Nat.le_of_ble_eq_true rfl, Nat.le_of_ble_eq_true rfl⟩ rfl hl.1 (Nat.le_of_ble_eq_true rfl) d_M_addName_83 ⟨(by first | exact Nat.le_of_ble_eq_true rfl | (dsimp only; omega) | omega), (by first | exact Nat.le_of_ble_eq_true rfl | (dsimp only; omega) | omega)⟩) hP hD hS hA [0, 1] [] rfl rfl rfl (by decide) (fun w1 H locs hp hP hD hS => ?_)
              obtain ⟨md_200, rfl, hm_200, hn_200, hn_200b⟩ := hp
              have hP : va_P (gD g) classes [(h0, .inr (4, [.ref a1, .int (nI (z_M_addOwn (z_M_one (z_M_one (z_M_addOwn (z_M_add (z_M_add xs 456901681454) 465491093294) 11) 36) 49) t).length), .ref a2, .int n2, .ref a3, .ref a4, .int n3])), (a1, .inl (gI g, 200, .inl md_200))] H := hP
              have hD : va_D A [(h0, .inr (4, [.ref a1, .int (nI (z_M_addOwn (z_M_one (z_M_one (z_M_addOwn (z_M_add (z_M_add xs 456901681454) 465491093294) 11) 36) 49) t).length), .ref a2, .int n2, .ref a3, .ref a4, .int n3])), (a1, .inl (gI g, 200, .inl md_200))] := hD
              have e : z_M_addName xs t = (z_M_addOwn (z_M_one (z_M_one (z_M_addOwn (z_M_add (z_M_add xs 456901681454) 465491093294) 11) 36) 49) t) := by rw [z_M_addName, if_neg c_1, if_pos c_73, if_neg c_145, if_neg c_181, if_neg c_193, if_pos c_194]
              exact ret_v hx hb hr hlk (hP.sub (ws' := [(h0, .inr (4, [.ref a1, .int (nI (z_M_addOwn (z_M_one (z_M_one (z_M_addOwn (z_M_add (z_M_add xs 456901681454) 465491093294) 11) 36) 49) t).length), .ref a2, .int n2, .ref a3, .ref a4, .int n3])), (a1, .inl (gI g, 200, .inl md_200))]) [0, 1] rfl) (hD.sub (ws' := [(h0, .inr (4, [.ref a1, .int (nI (z_M_addOwn (z_M_one (z_M_one (z_M_addOwn (z_M_add (z_M_add xs 456901681454) 465491093294) 11) 36) 49) t).length), .ref a2, .int n2, .ref a3, .ref a4, .int n3])), (a1, .inl (gI g, 200, .inl md_200))]) [0, 1] rfl rfl) hS ⟨md_200, by rw [e], by rw [e]; exact hm_200, by rw [e]; omega, by rw [e]; omega⟩ (by first | exact Nat.le_of_ble_eq_true rfl | (dsimp only; omega) | omega) (by first | exact Nat.le_of_ble_eq_true rfl | (dsimp only; omega) | omega) d_M_addName_86
          · skip
            refine lv_aload_n hx hb d_M_addName_56 rfl (lv_at hl 0 rfl) ?_
            refine lv_iload_n hx hb d_M_addName_57 rfl (lv_at hl 1 rfl) ?_
            refine lv_iconst (v := 1) hx hb d_M_addName_58 (by decide) ?_
            refine lv_isub hx hb d_M_addName_59 ?_
            refine go_v (wr := []) (run_V hF (c_M_addOwn g l _ h0 a1 a2 a3 a4 n2 n3 (z_M_one (z_M_addOwn (z_M_add (z_M_add xs 456901681454) 465491093294) 11) 36) md_180 hm_180 (t - 1) (by omega)) k_M_addOwn j_M_99 se_M_M_addOwn (va_recv hK hP (ci := 4) (q0 := 0) rfl rfl) (cw_down G hP hD hS hA [0, 1] rfl rfl) ⟨Nat.le_of_ble_eq_true rfl, Nat.le_of_ble_eq_true rfl⟩ rfl hl.1 (Nat.le_of_ble_eq_true rfl) d_M_addName_60 ⟨(by first | exact Nat.le_of_ble_eq_true rfl | (dsimp only; omega) | omega), (by first | exact Nat.le_of_ble_eq_true rfl | (dsimp only; omega) | omega)⟩) hP hD hS hA [0, 1] [] rfl rfl rfl (by decide) (fun w1 H locs hp hP hD hS => ?_)
            obtain ⟨md_202, rfl, hm_202, hn_202, hn_202b⟩ := hp
            have hP : va_P (gD g) classes [(h0, .inr (4, [.ref a1, .int (nI (z_M_addOwn (z_M_one (z_M_addOwn (z_M_add (z_M_add xs 456901681454) 465491093294) 11) 36) (t - 1)).length), .ref a2, .int n2, .ref a3, .ref a4, .int n3])), (a1, .inl (gI g, 200, .inl md_202))] H := hP
            have hD : va_D A [(h0, .inr (4, [.ref a1, .int (nI (z_M_addOwn (z_M_one (z_M_addOwn (z_M_add (z_M_add xs 456901681454) 465491093294) 11) 36) (t - 1)).length), .ref a2, .int n2, .ref a3, .ref a4, .int n3])), (a1, .inl (gI g, 200, .inl md_202))] := hD
            refine lv_aload_n hx hb d_M_addName_63 rfl (lv_at hl 0 rfl) ?_
            refine lv_bipush (v := 36) hx hb d_M_addName_64 (by decide) ?_
            refine go_v (wr := []) (run_V hF (c_M_one g l _ h0 a1 a2 a3 a4 n2 n3 (z_M_addOwn (z_M_one (z_M_addOwn (z_M_add (z_M_add xs 456901681454) 465491093294) 11) 36) (t - 1)) md_202 hm_202 36 (by omega)) k_M_one j_M_79 se_M_M_one (va_recv hK hP (ci := 4) (q0 := 0) rfl rfl) (cw_down G hP hD hS hA [0, 1] rfl rfl) ⟨Nat.le_of_ble_eq_true rfl, Nat.le_of_ble_eq_true rfl⟩ rfl hl.1 (Nat.le_of_ble_eq_true rfl) d_M_addName_66 ⟨(by first | exact Nat.le_of_ble_eq_true rfl | (dsimp only; omega) | omega), (by first | exact Nat.le_of_ble_eq_true rfl | (dsimp only; omega) | omega)⟩) hP hD hS hA [0, 1] [] rfl rfl rfl (by decide) (fun w1 H locs hp hP hD hS => ?_)
            obtain ⟨md_204, rfl, hm_204, hn_204, hn_204b⟩ := hp
            have hP : va_P (gD g) classes [(h0, .inr (4, [.ref a1, .int (nI (z_M_one (z_M_addOwn (z_M_one (z_M_addOwn (z_M_add (z_M_add xs 456901681454) 465491093294) 11) 36) (t - 1)) 36).length), .ref a2, .int n2, .ref a3, .ref a4, .int n3])), (a1, .inl (gI g, 200, .inl md_204))] H := hP
            have hD : va_D A [(h0, .inr (4, [.ref a1, .int (nI (z_M_one (z_M_addOwn (z_M_one (z_M_addOwn (z_M_add (z_M_add xs 456901681454) 465491093294) 11) 36) (t - 1)) 36).length), .ref a2, .int n2, .ref a3, .ref a4, .int n3])), (a1, .inl (gI g, 200, .inl md_204))] := hD
            refine lv_iload_n hx hb d_M_addName_69 rfl (lv_at hl 1 rfl) ?_
            refine lv_bipush (v := 23) hx hb d_M_addName_70 (by decide) ?_
            refine lv_icmp_ne (tgt := 81) hx hb d_M_addName_72 (by decide) (fun c_205 => ?_) (fun c_205 => ?_)
            · skip
              refine lv_aload_n hx hb d_M_addName_81 rfl (lv_at hl 0 rfl) ?_
              refine lv_iload_n hx hb d_M_addName_82 rfl (lv_at hl 1 rfl) ?_
              refine go_v (wr := []) (run_V hF (c_M_addOwn g l _ h0 a1 a2 a3 a4 n2 n3 (z_M_one (z_M_addOwn (z_M_one (z_M_addOwn (z_M_add (z_M_add xs 456901681454) 465491093294) 11) 36) (t - 1)) 36) md_204 hm_204 t (by omega)) k_M_addOwn j_M_99 se_M_M_addOwn (va_recv hK hP (ci := 4) (q0 := 0) rfl rfl) (cw_down G hP hD hS hA [0, 1] rfl rfl) ⟨Nat.le_of_ble_eq_true rfl, Nat.le_of_ble_eq_true rfl⟩ rfl hl.1 (Nat.le_of_ble_eq_true rfl) d_M_addName_83 ⟨(by first | exact Nat.le_of_ble_eq_true rfl | (dsimp only; omega) | omega), (by first | exact Nat.le_of_ble_eq_true rfl | (dsimp only; omega) | omega)⟩) hP hD hS hA [0, 1] [] rfl rfl rfl (by decide) (fun w1 H locs hp hP hD hS => ?_)
              obtain ⟨md_207, rfl, hm_207, hn_207, hn_207b⟩ := hp
              have hP : va_P (gD g) classes [(h0, .inr (4, [.ref a1, .int (nI (z_M_addOwn (z_M_one (z_M_addOwn (z_M_one (z_M_addOwn (z_M_add (z_M_add xs 456901681454) 465491093294) 11) 36) (t - 1)) 36) t).length), .ref a2, .int n2, .ref a3, .ref a4, .int n3])), (a1, .inl (gI g, 200, .inl md_207))] H := hP
              have hD : va_D A [(h0, .inr (4, [.ref a1, .int (nI (z_M_addOwn (z_M_one (z_M_addOwn (z_M_one (z_M_addOwn (z_M_add (z_M_add xs 456901681454) 465491093294) 11) 36) (t - 1)) 36) t).length), .ref a2, .int n2, .ref a3, .ref a4, .int n3])), (a1, .inl (gI g, 200, .inl md_207))] := hD
              have e : z_M_addName xs t = (z_M_addOwn (z_M_one (z_M_addOwn (z_M_one (z_M_addOwn (z_M_add (z_M_add xs 456901681454) 465491093294) 11) 36) (t - 1)) 36) t) := by rw [z_M_addName, if_neg c_1, if_pos c_73, if_neg c_145, if_neg c_181, if_pos c_193, if_neg c_205]
              exact ret_v hx hb hr hlk (hP.sub (ws' := [(h0, .inr (4, [.ref a1, .int (nI (z_M_addOwn (z_M_one (z_M_addOwn (z_M_one (z_M_addOwn (z_M_add (z_M_add xs 456901681454) 465491093294) 11) 36) (t - 1)) 36) t).length), .ref a2, .int n2, .ref a3, .ref a4, .int n3])), (a1, .inl (gI g, 200, .inl md_207))]) [0, 1] rfl) (hD.sub (ws' := [(h0, .inr (4, [.ref a1, .int (nI (z_M_addOwn (z_M_one (z_M_addOwn (z_M_one (z_M_addOwn (z_M_add (z_M_add xs 456901681454) 465491093294) 11) 36) (t - 1)) 36) t).length), .ref a2, .int n2, .ref a3, .ref a4, .int n3])), (a1, .inl (gI g, 200, .inl md_207))]) [0, 1] rfl rfl) hS ⟨md_207, by rw [e], by rw [e]; exact hm_207, by rw [e]; omega, by rw [e]; omega⟩ (by first | exact Nat.le_of_ble_eq_true rfl | (dsimp only; omega) | omega) (by first | exact Nat.le_of_ble_eq_true rfl | (dsimp only; omega) | omega) d_M_addName_86
            · skip
              refine lv_aload_n hx hb d_M_addName_75 rfl (lv_at hl 0 rfl) ?_
              refine lv_bipush (v := 49) hx hb d_M_addName_76 (by decide) ?_
              refine go_v (wr := []) (run_V hF (c_M_one g l _ h0 a1 a2 a3 a4 n2 n3 (z_M_one (z_M_addOwn (z_M_one (z_M_addOwn (z_M_add (z_M_add xs 456901681454) 465491093294) 11) 36) (t - 1)) 36) md_204 hm_204 49 (by omega)) k_M_one j_M_79 se_M_M_one (va_recv hK hP (ci := 4) (q0 := 0) rfl rfl) (cw_down G hP hD hS hA [0, 1] rfl rfl) ⟨Nat.le_of_ble_eq_true rfl, Nat.le_of_ble_eq_true rfl⟩ rfl hl.1 (Nat.le_of_ble_eq_true rfl) d_M_addName_78 ⟨(by first | exact Nat.le_of_ble_eq_true rfl | (dsimp only; omega) | omega), (by first | exact Nat.le_of_ble_eq_true rfl | (dsimp only; omega) | omega)⟩) hP hD hS hA [0, 1] [] rfl rfl rfl (by decide) (fun w1 H locs hp hP hD hS => ?_)
              obtain ⟨md_209, rfl, hm_209, hn_209, hn_209b⟩ := hp
              have hP : va_P (gD g) classes [(h0, .inr (4, [.ref a1, .int (nI (z_M_one (z_M_one (z_M_addOwn (z_M_one (z_M_addOwn (z_M_add (z_M_add xs 456901681454) 465491093294) 11) 36) (t - 1)) 36) 49).length), .ref a2, .int n2, .ref a3, .ref a4, .int n3])), (a1, .inl (gI g, 200, .inl md_209))] H := hP
              have hD : va_D A [(h0, .inr (4, [.ref a1, .int (nI (z_M_one (z_M_one (z_M_addOwn (z_M_one (z_M_addOwn (z_M_add (z_M_add xs 456901681454) 465491093294) 11) 36) (t - 1)) 36) 49).length), .ref a2, .int n2, .ref a3, .ref a4, .int n3])), (a1, .inl (gI g, 200, .inl md_209))] := hD
              refine lv_aload_n hx hb d_M_addName_81 rfl (lv_at hl 0 rfl) ?_
              refine lv_iload_n hx hb d_M_addName_82 rfl (lv_at hl 1 rfl) ?_
              refine go_v (wr := []) (run_V hF (c_M_addOwn g l _ h0 a1 a2 a3 a4 n2 n3 (z_M_one (z_M_one (z_M_addOwn (z_M_one (z_M_addOwn (z_M_add (z_M_add xs 456901681454) 465491093294) 11) 36) (t - 1)) 36) 49) md_209 hm_209 t (by omega)) k_M_addOwn j_M_99 se_M_M_addOwn (va_recv hK hP (ci := 4) (q0 := 0) rfl rfl) (cw_down G hP hD hS hA [0, 1] rfl rfl) ⟨Nat.le_of_ble_eq_true rfl, Nat.le_of_ble_eq_true rfl⟩ rfl hl.1 (Nat.le_of_ble_eq_true rfl) d_M_addName_83 ⟨(by first | exact Nat.le_of_ble_eq_true rfl | (dsimp only; omega) | omega), (by first | exact Nat.le_of_ble_eq_true rfl | (dsimp only; omega) | omega)⟩) hP hD hS hA [0, 1] [] rfl rfl rfl (by decide) (fun w1 H locs hp hP hD hS => ?_)
              obtain ⟨md_211, rfl, hm_211, hn_211, hn_211b⟩ := hp
              have hP : va_P (gD g) classes [(h0, .inr (4, [.ref a1, .int (nI (z_M_addOwn (z_M_one (z_M_one (z_M_addOwn (z_M_one (z_M_addOwn (z_M_add (z_M_add xs 456901681454) 465491093294) 11) 36) (t - 1)) 36) 49) t).length), .ref a2, .int n2, .ref a3, .ref a4, .int n3])), (a1, .inl (gI g, 200, .inl md_211))] H := hP
              have hD : va_D A [(h0, .inr (4, [.ref a1, .int (nI (z_M_addOwn (z_M_one (z_M_one (z_M_addOwn (z_M_one (z_M_addOwn (z_M_add (z_M_add xs 456901681454) 465491093294) 11) 36) (t - 1)) 36) 49) t).length), .ref a2, .int n2, .ref a3, .ref a4, .int n3])), (a1, .inl (gI g, 200, .inl md_211))] := hD
              have e : z_M_addName xs t = (z_M_addOwn (z_M_one (z_M_one (z_M_addOwn (z_M_one (z_M_addOwn (z_M_add (z_M_add xs 456901681454) 465491093294) 11) 36) (t - 1)) 36) 49) t) := by rw [z_M_addName, if_neg c_1, if_pos c_73, if_neg c_145, if_neg c_181, if_pos c_193, if_pos c_205]
              exact ret_v hx hb hr hlk (hP.sub (ws' := [(h0, .inr (4, [.ref a1, .int (nI (z_M_addOwn (z_M_one (z_M_one (z_M_addOwn (z_M_one (z_M_addOwn (z_M_add (z_M_add xs 456901681454) 465491093294) 11) 36) (t - 1)) 36) 49) t).length), .ref a2, .int n2, .ref a3, .ref a4, .int n3])), (a1, .inl (gI g, 200, .inl md_211))]) [0, 1] rfl) (hD.sub (ws' := [(h0, .inr (4, [.ref a1, .int (nI (z_M_addOwn (z_M_one (z_M_one (z_M_addOwn (z_M_one (z_M_addOwn (z_M_add (z_M_add xs 456901681454) 465491093294) 11) 36) (t - 1)) 36) 49) t).length), .ref a2, .int n2, .ref a3, .ref a4, .int n3])), (a1, .inl (gI g, 200, .inl md_211))]) [0, 1] rfl rfl) hS ⟨md_211, by rw [e], by rw [e]; exact hm_211, by rw [e]; omega, by rw [e]; omega⟩ (by first | exact Nat.le_of_ble_eq_true rfl | (dsimp only; omega) | omega) (by first | exact Nat.le_of_ble_eq_true rfl | (dsimp only; omega) | omega) d_M_addName_86
