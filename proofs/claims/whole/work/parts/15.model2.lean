def f_M_into (u : Int32) (t : Int32) : Int32 := (if u < 40 then (if u = t then 1 else (if t = 9 then (if (f_M_primitive u) = 0 then 1 else 0) else (if t = 10 then (if u = 24 then 1 else 0) else (if t = 12 then (if u = 15 then 1 else (if u = 23 then 1 else 0)) else (if t = 13 then (if u = 14 then 1 else (if u = 15 then 1 else 0)) else (if t = 16 then (if u = 17 then 1 else 0) else (if t = 21 then (if u = 22 then 1 else (if u = 23 then 1 else (if t = 22 then 0 else 0))) else (if t = 22 then (if u = 23 then 1 else 0) else 0)))))))) else (if t < 40 then (if u = t then 1 else (if t = 9 then (if (f_M_primitive u) = 0 then 1 else 0) else (if t = 10 then (if u = 24 then 1 else 0) else (if t = 12 then (if u = 15 then 1 else (if u = 23 then 1 else 0)) else (if t = 13 then (if u = 14 then 1 else (if u = 15 then 1 else 0)) else (if t = 16 then (if u = 17 then 1 else 0) else (if t = 21 then (if u = 22 then 1 else (if u = 23 then 1 else (if t = 22 then 0 else 0))) else (if t = 22 then (if u = 23 then 1 else 0) else 0)))))))) else (if u = t then 1 else (if (f_M_primitive (u + (-40))) = 0 then (if (u + (-40)) < 40 then (if (u + (-40)) = (t + (-40)) then 1 else (if (t + (-40)) = 9 then 1 else (if (t + (-40)) = 10 then (if (u + (-40)) = 24 then 1 else 0) else (if (t + (-40)) = 12 then (if (u + (-40)) = 15 then 1 else (if (u + (-40)) = 23 then 1 else 0)) else (if (t + (-40)) = 13 then (if (u + (-40)) = 14 then 1 else (if (u + (-40)) = 15 then 1 else 0)) else (if (t + (-40)) = 16 then (if (u + (-40)) = 17 then 1 else 0) else (if (t + (-40)) = 21 then (if (u + (-40)) = 22 then 1 else (if (u + (-40)) = 23 then 1 else (if (t + (-40)) = 22 then 0 else 0))) else (if (t + (-40)) = 22 then (if (u + (-40)) = 23 then 1 else 0) else 0)))))))) else (if (t + (-40)) < 40 then (if (u + (-40)) = (t + (-40)) then 1 else (if (t + (-40)) = 9 then 1 else (if (t + (-40)) = 10 then (if (u + (-40)) = 24 then 1 else 0) else (if (t + (-40)) = 12 then (if (u + (-40)) = 15 then 1 else (if (u + (-40)) = 23 then 1 else 0)) else (if (t + (-40)) = 13 then (if (u + (-40)) = 14 then 1 else (if (u + (-40)) = 15 then 1 else 0)) else (if (t + (-40)) = 16 then (if (u + (-40)) = 17 then 1 else 0) else (if (t + (-40)) = 21 then (if (u + (-40)) = 22 then 1 else (if (u + (-40)) = 23 then 1 else (if (t + (-40)) = 22 then 0 else 0))) else (if (t + (-40)) = 22 then (if (u + (-40)) = 23 then 1 else 0) else 0)))))))) else (if (u + (-40)) = (t + (-40)) then 1 else (if (f_M_primitive ((u + (-40)) + (-40))) = 0 then (if ((u + (-40)) + (-40)) = ((t + (-40)) + (-40)) then 1 else (if ((t + (-40)) + (-40)) = 9 then 1 else (if ((t + (-40)) + (-40)) = 10 then (if ((u + (-40)) + (-40)) = 24 then 1 else 0) else (if ((t + (-40)) + (-40)) = 12 then (if ((u + (-40)) + (-40)) = 15 then 1 else (if ((u + (-40)) + (-40)) = 23 then 1 else 0)) else (if ((t + (-40)) + (-40)) = 13 then (if ((u + (-40)) + (-40)) = 14 then 1 else (if ((u + (-40)) + (-40)) = 15 then 1 else 0)) else (if ((t + (-40)) + (-40)) = 16 then (if ((u + (-40)) + (-40)) = 17 then 1 else 0) else (if ((t + (-40)) + (-40)) = 21 then (if ((u + (-40)) + (-40)) = 22 then 1 else (if ((u + (-40)) + (-40)) = 23 then 1 else (if ((t + (-40)) + (-40)) = 22 then 0 else 0))) else (if ((t + (-40)) + (-40)) = 22 then (if ((u + (-40)) + (-40)) = 23 then 1 else 0) else 0)))))))) else 0)))) else 0))))
set_option maxRecDepth 100000 in
theorem z_M_into (u : Int32) (t : Int32) : f_M_into u t = 0 ∨ f_M_into u t = 1 := by
  unfold f_M_into
  repeat' first | with_reducible refine z_ite ?_ ?_ | with_reducible exact z_M_primitive _ | with_reducible exact Or.inl rfl | with_reducible exact Or.inr rfl
set_option maxRecDepth 100000 in
theorem k_M_into : ck y_M_into b_M_into 4 (some .boolean) 2 (.static y_M_into) := ⟨tk_of (List.mem_of_getElem? (i := 843) rfl) rfl, tk_of (List.mem_of_getElem? (i := 842) (by decide +kernel)) rfl, tk_of (List.mem_of_getElem? (i := 43) (by decide +kernel)) rfl, by decide +kernel⟩
set_option maxHeartbeats 4000000 in
set_option maxRecDepth 100000 in
theorem c_M_into (l : Launch) (u : Int32) (t : Int32) (hu : u < 120) : pmI l y_M_into b_M_into 4 .boolean 2 42 [.int u, .int t] (fun r => r = f_M_into u t) := by
  refine pm_of (by decide) (Nat.le_of_ble_eq_true rfl) ?_
  intro p e s m below meth c ls hx hb hF hr hlk hN hl
  have hl : lv_has ls 4 [(0, .int u), (1, .int t)] := hl
  refine lv_iload_n hx hb d_M_into_0 rfl (lv_at hl 0 rfl) ?_
  refine lv_istore_n (lv' := [(2, .int u), (0, .int u), (1, .int t)]) hx hb d_M_into_1 rfl hl (by decide) rfl (fun ls hl => ?_)
  refine lv_iload_n hx hb d_M_into_2 rfl (lv_at hl 2 rfl) ?_
  refine lv_istore_n (lv' := [(3, .int t), (2, .int u), (0, .int u), (1, .int t)]) hx hb d_M_into_3 rfl hl (by decide) rfl (fun ls hl => ?_)
  refine lv_iload_n hx hb d_M_into_4 rfl (lv_at hl 1 rfl) ?_
  refine lv_bipush (v := 40) hx hb d_M_into_5 (by decide) ?_
  refine lv_icmp_lt (tgt := 36) hx hb d_M_into_7 (by decide) (fun c_1 => ?_) (fun c_1 => ?_)
  · skip
    refine lv_iload_n hx hb d_M_into_36 rfl (lv_at hl 1 rfl) ?_
    refine lv_iload_n hx hb d_M_into_37 rfl (lv_at hl 0 rfl) ?_
    refine lv_icmp_ne (tgt := 43) hx hb d_M_into_38 (by decide) (fun c_2 => ?_) (fun c_2 => ?_)
    · skip
      refine lv_iload_n hx hb d_M_into_43 rfl (lv_at hl 0 rfl) ?_
      refine lv_bipush (v := 9) hx hb d_M_into_44 (by decide) ?_
      refine lv_icmp_ne (tgt := 62) hx hb d_M_into_46 (by decide) (fun c_3 => ?_) (fun c_3 => ?_)
      · skip
        refine lv_iload_n hx hb d_M_into_62 rfl (lv_at hl 0 rfl) ?_
        refine lv_bipush (v := 10) hx hb d_M_into_63 (by decide) ?_
        refine lv_icmp_ne (tgt := 80) hx hb d_M_into_65 (by decide) (fun c_4 => ?_) (fun c_4 => ?_)
        · skip
          refine lv_iload_n hx hb d_M_into_80 rfl (lv_at hl 0 rfl) ?_
          refine lv_bipush (v := 12) hx hb d_M_into_81 (by decide) ?_
          refine lv_icmp_ne (tgt := 104) hx hb d_M_into_83 (by decide) (fun c_5 => ?_) (fun c_5 => ?_)
          · skip
            refine lv_iload_n hx hb d_M_into_104 rfl (lv_at hl 0 rfl) ?_
            refine lv_bipush (v := 13) hx hb d_M_into_105 (by decide) ?_
            refine lv_icmp_ne (tgt := 128) hx hb d_M_into_107 (by decide) (fun c_6 => ?_) (fun c_6 => ?_)
            · skip
              refine lv_iload_n hx hb d_M_into_128 rfl (lv_at hl 0 rfl) ?_
              refine lv_bipush (v := 16) hx hb d_M_into_129 (by decide) ?_
              refine lv_icmp_ne (tgt := 146) hx hb d_M_into_131 (by decide) (fun c_7 => ?_) (fun c_7 => ?_)
              · skip
                refine lv_iload_n hx hb d_M_into_146 rfl (lv_at hl 0 rfl) ?_
                refine lv_bipush (v := 21) hx hb d_M_into_147 (by decide) ?_
                refine lv_icmp_ne (tgt := 164) hx hb d_M_into_149 (by decide) (fun c_8 => ?_) (fun c_8 => ?_)
                · skip
                  refine lv_iload_n hx hb d_M_into_164 rfl (lv_at hl 0 rfl) ?_
                  refine lv_bipush (v := 22) hx hb d_M_into_165 (by decide) ?_
                  refine lv_icmp_ne (tgt := 180) hx hb d_M_into_167 (by decide) (fun c_9 => ?_) (fun c_9 => ?_)
                  · skip
                    refine lv_iconst (v := 0) hx hb d_M_into_180 (by decide) ?_
                    exact pm_ret hx hb hr hlk (by decide) (by rw [f_M_into, if_pos c_1, if_neg c_2, if_neg c_3, if_neg c_4, if_neg c_5, if_neg c_6, if_neg c_7, if_neg c_8, if_neg c_9]) d_M_into_181
                  · skip
                    refine lv_iload_n hx hb d_M_into_170 rfl (lv_at hl 1 rfl) ?_
                    refine lv_bipush (v := 23) hx hb d_M_into_171 (by decide) ?_
                    refine lv_icmp_ne (tgt := 180) hx hb d_M_into_173 (by decide) (fun c_10 => ?_) (fun c_10 => ?_)
                    · skip
                      refine lv_iconst (v := 0) hx hb d_M_into_180 (by decide) ?_
                      exact pm_ret hx hb hr hlk (by decide) (by rw [f_M_into, if_pos c_1, if_neg c_2, if_neg c_3, if_neg c_4, if_neg c_5, if_neg c_6, if_neg c_7, if_neg c_8, if_pos c_9, if_neg c_10]) d_M_into_181
                    · skip
                      refine lv_iconst (v := 1) hx hb d_M_into_176 (by decide) ?_
                      refine lv_goto (tgt := 181) hx hb d_M_into_177 (by decide) ?_
                      exact pm_ret hx hb hr hlk (by decide) (by rw [f_M_into, if_pos c_1, if_neg c_2, if_neg c_3, if_neg c_4, if_neg c_5, if_neg c_6, if_neg c_7, if_neg c_8, if_pos c_9, if_pos c_10]) d_M_into_181
                · skip
                  refine lv_iload_n hx hb d_M_into_152 rfl (lv_at hl 1 rfl) ?_
                  refine lv_bipush (v := 22) hx hb d_M_into_153 (by decide) ?_
                  refine lv_icmp_eq (tgt := 176) hx hb d_M_into_155 (by decide) (fun c_11 => ?_) (fun c_11 => ?_)
                  · skip
                    refine lv_iconst (v := 1) hx hb d_M_into_176 (by decide) ?_
                    refine lv_goto (tgt := 181) hx hb d_M_into_177 (by decide) ?_
                    exact pm_ret hx hb hr hlk (by decide) (by rw [f_M_into, if_pos c_1, if_neg c_2, if_neg c_3, if_neg c_4, if_neg c_5, if_neg c_6, if_neg c_7, if_pos c_8, if_pos c_11]) d_M_into_181
                  · skip
                    refine lv_iload_n hx hb d_M_into_158 rfl (lv_at hl 1 rfl) ?_
                    refine lv_bipush (v := 23) hx hb d_M_into_159 (by decide) ?_
                    refine lv_icmp_eq (tgt := 176) hx hb d_M_into_161 (by decide) (fun c_12 => ?_) (fun c_12 => ?_)
                    · skip
                      refine lv_iconst (v := 1) hx hb d_M_into_176 (by decide) ?_
                      refine lv_goto (tgt := 181) hx hb d_M_into_177 (by decide) ?_
                      exact pm_ret hx hb hr hlk (by decide) (by rw [f_M_into, if_pos c_1, if_neg c_2, if_neg c_3, if_neg c_4, if_neg c_5, if_neg c_6, if_neg c_7, if_pos c_8, if_neg c_11, if_pos c_12]) d_M_into_181
                    · skip
                      refine lv_iload_n hx hb d_M_into_164 rfl (lv_at hl 0 rfl) ?_
                      refine lv_bipush (v := 22) hx hb d_M_into_165 (by decide) ?_
                      refine lv_icmp_ne (tgt := 180) hx hb d_M_into_167 (by decide) (fun c_13 => ?_) (fun c_13 => ?_)
                      · skip
                        refine lv_iconst (v := 0) hx hb d_M_into_180 (by decide) ?_
                        exact pm_ret hx hb hr hlk (by decide) (by rw [f_M_into, if_pos c_1, if_neg c_2, if_neg c_3, if_neg c_4, if_neg c_5, if_neg c_6, if_neg c_7, if_pos c_8, if_neg c_11, if_neg c_12, if_neg c_13]) d_M_into_181
                      · skip
                        refine lv_iload_n hx hb d_M_into_170 rfl (lv_at hl 1 rfl) ?_
                        refine lv_bipush (v := 23) hx hb d_M_into_171 (by decide) ?_
                        refine lv_icmp_ne (tgt := 180) hx hb d_M_into_173 (by decide) (fun c_14 => ?_) (fun c_14 => ?_)
                        · skip
                          refine lv_iconst (v := 0) hx hb d_M_into_180 (by decide) ?_
                          exact pm_ret hx hb hr hlk (by decide) (by rw [f_M_into, if_pos c_1, if_neg c_2, if_neg c_3, if_neg c_4, if_neg c_5, if_neg c_6, if_neg c_7, if_pos c_8, if_neg c_11, if_neg c_12, if_pos c_13]) d_M_into_181
                        · exact absurd c_14 c_12
              · skip
                refine lv_iload_n hx hb d_M_into_134 rfl (lv_at hl 1 rfl) ?_
                refine lv_bipush (v := 17) hx hb d_M_into_135 (by decide) ?_
                refine lv_icmp_ne (tgt := 144) hx hb d_M_into_137 (by decide) (fun c_15 => ?_) (fun c_15 => ?_)
                · skip
                  refine lv_iconst (v := 0) hx hb d_M_into_144 (by decide) ?_
                  exact pm_ret hx hb hr hlk (by decide) (by rw [f_M_into, if_pos c_1, if_neg c_2, if_neg c_3, if_neg c_4, if_neg c_5, if_neg c_6, if_pos c_7, if_neg c_15]) d_M_into_145
                · skip
                  refine lv_iconst (v := 1) hx hb d_M_into_140 (by decide) ?_
                  refine lv_goto (tgt := 145) hx hb d_M_into_141 (by decide) ?_
                  exact pm_ret hx hb hr hlk (by decide) (by rw [f_M_into, if_pos c_1, if_neg c_2, if_neg c_3, if_neg c_4, if_neg c_5, if_neg c_6, if_pos c_7, if_pos c_15]) d_M_into_145
            · skip
              refine lv_iload_n hx hb d_M_into_110 rfl (lv_at hl 1 rfl) ?_
              refine lv_bipush (v := 14) hx hb d_M_into_111 (by decide) ?_
              refine lv_icmp_eq (tgt := 122) hx hb d_M_into_113 (by decide) (fun c_16 => ?_) (fun c_16 => ?_)
              · skip
                refine lv_iconst (v := 1) hx hb d_M_into_122 (by decide) ?_
                refine lv_goto (tgt := 127) hx hb d_M_into_123 (by decide) ?_
                exact pm_ret hx hb hr hlk (by decide) (by rw [f_M_into, if_pos c_1, if_neg c_2, if_neg c_3, if_neg c_4, if_neg c_5, if_pos c_6, if_pos c_16]) d_M_into_127
              · skip
                refine lv_iload_n hx hb d_M_into_116 rfl (lv_at hl 1 rfl) ?_
                refine lv_bipush (v := 15) hx hb d_M_into_117 (by decide) ?_
                refine lv_icmp_ne (tgt := 126) hx hb d_M_into_119 (by decide) (fun c_17 => ?_) (fun c_17 => ?_)
                · skip
                  refine lv_iconst (v := 0) hx hb d_M_into_126 (by decide) ?_
                  exact pm_ret hx hb hr hlk (by decide) (by rw [f_M_into, if_pos c_1, if_neg c_2, if_neg c_3, if_neg c_4, if_neg c_5, if_pos c_6, if_neg c_16, if_neg c_17]) d_M_into_127
                · skip
                  refine lv_iconst (v := 1) hx hb d_M_into_122 (by decide) ?_
                  refine lv_goto (tgt := 127) hx hb d_M_into_123 (by decide) ?_
                  exact pm_ret hx hb hr hlk (by decide) (by rw [f_M_into, if_pos c_1, if_neg c_2, if_neg c_3, if_neg c_4, if_neg c_5, if_pos c_6, if_neg c_16, if_pos c_17]) d_M_into_127
          · skip
            refine lv_iload_n hx hb d_M_into_86 rfl (lv_at hl 1 rfl) ?_
            refine lv_bipush (v := 15) hx hb d_M_into_87 (by decide) ?_
            refine lv_icmp_eq (tgt := 98) hx hb d_M_into_89 (by decide) (fun c_18 => ?_) (fun c_18 => ?_)
            · skip
              refine lv_iconst (v := 1) hx hb d_M_into_98 (by decide) ?_
              refine lv_goto (tgt := 103) hx hb d_M_into_99 (by decide) ?_
              exact pm_ret hx hb hr hlk (by decide) (by rw [f_M_into, if_pos c_1, if_neg c_2, if_neg c_3, if_neg c_4, if_pos c_5, if_pos c_18]) d_M_into_103
            · skip
              refine lv_iload_n hx hb d_M_into_92 rfl (lv_at hl 1 rfl) ?_
              refine lv_bipush (v := 23) hx hb d_M_into_93 (by decide) ?_
              refine lv_icmp_ne (tgt := 102) hx hb d_M_into_95 (by decide) (fun c_19 => ?_) (fun c_19 => ?_)
              · skip
                refine lv_iconst (v := 0) hx hb d_M_into_102 (by decide) ?_
                exact pm_ret hx hb hr hlk (by decide) (by rw [f_M_into, if_pos c_1, if_neg c_2, if_neg c_3, if_neg c_4, if_pos c_5, if_neg c_18, if_neg c_19]) d_M_into_103
              · skip
                refine lv_iconst (v := 1) hx hb d_M_into_98 (by decide) ?_
                refine lv_goto (tgt := 103) hx hb d_M_into_99 (by decide) ?_
                exact pm_ret hx hb hr hlk (by decide) (by rw [f_M_into, if_pos c_1, if_neg c_2, if_neg c_3, if_neg c_4, if_pos c_5, if_neg c_18, if_pos c_19]) d_M_into_103
        · skip
          refine lv_iload_n hx hb d_M_into_68 rfl (lv_at hl 1 rfl) ?_
          refine lv_bipush (v := 24) hx hb d_M_into_69 (by decide) ?_
          refine lv_icmp_ne (tgt := 78) hx hb d_M_into_71 (by decide) (fun c_20 => ?_) (fun c_20 => ?_)
          · skip
            refine lv_iconst (v := 0) hx hb d_M_into_78 (by decide) ?_
            exact pm_ret hx hb hr hlk (by decide) (by rw [f_M_into, if_pos c_1, if_neg c_2, if_neg c_3, if_pos c_4, if_neg c_20]) d_M_into_79
          · skip
            refine lv_iconst (v := 1) hx hb d_M_into_74 (by decide) ?_
            refine lv_goto (tgt := 79) hx hb d_M_into_75 (by decide) ?_
            exact pm_ret hx hb hr hlk (by decide) (by rw [f_M_into, if_pos c_1, if_neg c_2, if_neg c_3, if_pos c_4, if_pos c_20]) d_M_into_79
      · skip
        refine lv_iload_n hx hb d_M_into_49 rfl (lv_at hl 1 rfl) ?_
        refine pm_callE hF hN (c_M_primitive l u) k_M_primitive j_M_102 ⟨Nat.le_of_ble_eq_true rfl, Nat.le_of_ble_eq_true rfl⟩ rfl hl.1 (Nat.le_of_ble_eq_true rfl) d_M_into_50 ⟨Nat.le_refl _, Nat.le_refl _⟩ ?_
        refine lv_if_ne (tgt := 60) hx hb d_M_into_53 (by decide) (fun c_22 => ?_) (fun c_22 => ?_)
        · skip
          refine lv_iconst (v := 0) hx hb d_M_into_60 (by decide) ?_
          exact pm_ret hx hb hr hlk (by decide) (by rw [f_M_into, if_pos c_1, if_neg c_2, if_pos c_3, if_neg c_22]) d_M_into_61
        · skip
          refine lv_iconst (v := 1) hx hb d_M_into_56 (by decide) ?_
          refine lv_goto (tgt := 61) hx hb d_M_into_57 (by decide) ?_
          exact pm_ret hx hb hr hlk (by decide) (by rw [f_M_into, if_pos c_1, if_neg c_2, if_pos c_3, if_pos c_22]) d_M_into_61
    · skip
      refine lv_iconst (v := 1) hx hb d_M_into_41 (by decide) ?_
      exact pm_ret hx hb hr hlk (by decide) (by rw [f_M_into, if_pos c_1, if_pos c_2]) d_M_into_42
  · skip
    refine lv_iload_n hx hb d_M_into_10 rfl (lv_at hl 0 rfl) ?_
    refine lv_bipush (v := 40) hx hb d_M_into_11 (by decide) ?_
    refine lv_icmp_lt (tgt := 36) hx hb d_M_into_13 (by decide) (fun c_23 => ?_) (fun c_23 => ?_)
    · skip
      refine lv_iload_n hx hb d_M_into_36 rfl (lv_at hl 1 rfl) ?_
      refine lv_iload_n hx hb d_M_into_37 rfl (lv_at hl 0 rfl) ?_
      refine lv_icmp_ne (tgt := 43) hx hb d_M_into_38 (by decide) (fun c_24 => ?_) (fun c_24 => ?_)
      · skip
        refine lv_iload_n hx hb d_M_into_43 rfl (lv_at hl 0 rfl) ?_
        refine lv_bipush (v := 9) hx hb d_M_into_44 (by decide) ?_
        refine lv_icmp_ne (tgt := 62) hx hb d_M_into_46 (by decide) (fun c_25 => ?_) (fun c_25 => ?_)
        · skip
          refine lv_iload_n hx hb d_M_into_62 rfl (lv_at hl 0 rfl) ?_
          refine lv_bipush (v := 10) hx hb d_M_into_63 (by decide) ?_
          refine lv_icmp_ne (tgt := 80) hx hb d_M_into_65 (by decide) (fun c_26 => ?_) (fun c_26 => ?_)
          · skip
            refine lv_iload_n hx hb d_M_into_80 rfl (lv_at hl 0 rfl) ?_
            refine lv_bipush (v := 12) hx hb d_M_into_81 (by decide) ?_
            refine lv_icmp_ne (tgt := 104) hx hb d_M_into_83 (by decide) (fun c_27 => ?_) (fun c_27 => ?_)
            · skip
              refine lv_iload_n hx hb d_M_into_104 rfl (lv_at hl 0 rfl) ?_
              refine lv_bipush (v := 13) hx hb d_M_into_105 (by decide) ?_
              refine lv_icmp_ne (tgt := 128) hx hb d_M_into_107 (by decide) (fun c_28 => ?_) (fun c_28 => ?_)
              · skip
                refine lv_iload_n hx hb d_M_into_128 rfl (lv_at hl 0 rfl) ?_
                refine lv_bipush (v := 16) hx hb d_M_into_129 (by decide) ?_
                refine lv_icmp_ne (tgt := 146) hx hb d_M_into_131 (by decide) (fun c_29 => ?_) (fun c_29 => ?_)
                · skip
                  refine lv_iload_n hx hb d_M_into_146 rfl (lv_at hl 0 rfl) ?_
                  refine lv_bipush (v := 21) hx hb d_M_into_147 (by decide) ?_
                  refine lv_icmp_ne (tgt := 164) hx hb d_M_into_149 (by decide) (fun c_30 => ?_) (fun c_30 => ?_)
                  · skip
                    refine lv_iload_n hx hb d_M_into_164 rfl (lv_at hl 0 rfl) ?_
                    refine lv_bipush (v := 22) hx hb d_M_into_165 (by decide) ?_
                    refine lv_icmp_ne (tgt := 180) hx hb d_M_into_167 (by decide) (fun c_31 => ?_) (fun c_31 => ?_)
                    · skip
                      refine lv_iconst (v := 0) hx hb d_M_into_180 (by decide) ?_
                      exact pm_ret hx hb hr hlk (by decide) (by rw [f_M_into, if_neg c_1, if_pos c_23, if_neg c_24, if_neg c_25, if_neg c_26, if_neg c_27, if_neg c_28, if_neg c_29, if_neg c_30, if_neg c_31]) d_M_into_181
                    · skip
                      refine lv_iload_n hx hb d_M_into_170 rfl (lv_at hl 1 rfl) ?_
                      refine lv_bipush (v := 23) hx hb d_M_into_171 (by decide) ?_
                      refine lv_icmp_ne (tgt := 180) hx hb d_M_into_173 (by decide) (fun c_32 => ?_) (fun c_32 => ?_)
                      · skip
                        refine lv_iconst (v := 0) hx hb d_M_into_180 (by decide) ?_
                        exact pm_ret hx hb hr hlk (by decide) (by rw [f_M_into, if_neg c_1, if_pos c_23, if_neg c_24, if_neg c_25, if_neg c_26, if_neg c_27, if_neg c_28, if_neg c_29, if_neg c_30, if_pos c_31, if_neg c_32]) d_M_into_181
                      · skip
                        refine lv_iconst (v := 1) hx hb d_M_into_176 (by decide) ?_
                        refine lv_goto (tgt := 181) hx hb d_M_into_177 (by decide) ?_
                        exact pm_ret hx hb hr hlk (by decide) (by rw [f_M_into, if_neg c_1, if_pos c_23, if_neg c_24, if_neg c_25, if_neg c_26, if_neg c_27, if_neg c_28, if_neg c_29, if_neg c_30, if_pos c_31, if_pos c_32]) d_M_into_181
                  · skip
                    refine lv_iload_n hx hb d_M_into_152 rfl (lv_at hl 1 rfl) ?_
                    refine lv_bipush (v := 22) hx hb d_M_into_153 (by decide) ?_
                    refine lv_icmp_eq (tgt := 176) hx hb d_M_into_155 (by decide) (fun c_33 => ?_) (fun c_33 => ?_)
                    · skip
                      refine lv_iconst (v := 1) hx hb d_M_into_176 (by decide) ?_
                      refine lv_goto (tgt := 181) hx hb d_M_into_177 (by decide) ?_
                      exact pm_ret hx hb hr hlk (by decide) (by rw [f_M_into, if_neg c_1, if_pos c_23, if_neg c_24, if_neg c_25, if_neg c_26, if_neg c_27, if_neg c_28, if_neg c_29, if_pos c_30, if_pos c_33]) d_M_into_181
                    · skip
                      refine lv_iload_n hx hb d_M_into_158 rfl (lv_at hl 1 rfl) ?_
                      refine lv_bipush (v := 23) hx hb d_M_into_159 (by decide) ?_
                      refine lv_icmp_eq (tgt := 176) hx hb d_M_into_161 (by decide) (fun c_34 => ?_) (fun c_34 => ?_)
                      · skip
                        refine lv_iconst (v := 1) hx hb d_M_into_176 (by decide) ?_
                        refine lv_goto (tgt := 181) hx hb d_M_into_177 (by decide) ?_
                        exact pm_ret hx hb hr hlk (by decide) (by rw [f_M_into, if_neg c_1, if_pos c_23, if_neg c_24, if_neg c_25, if_neg c_26, if_neg c_27, if_neg c_28, if_neg c_29, if_pos c_30, if_neg c_33, if_pos c_34]) d_M_into_181
                      · skip
                        refine lv_iload_n hx hb d_M_into_164 rfl (lv_at hl 0 rfl) ?_
                        refine lv_bipush (v := 22) hx hb d_M_into_165 (by decide) ?_
                        refine lv_icmp_ne (tgt := 180) hx hb d_M_into_167 (by decide) (fun c_35 => ?_) (fun c_35 => ?_)
                        · skip
                          refine lv_iconst (v := 0) hx hb d_M_into_180 (by decide) ?_
                          exact pm_ret hx hb hr hlk (by decide) (by rw [f_M_into, if_neg c_1, if_pos c_23, if_neg c_24, if_neg c_25, if_neg c_26, if_neg c_27, if_neg c_28, if_neg c_29, if_pos c_30, if_neg c_33, if_neg c_34, if_neg c_35]) d_M_into_181
                        · skip
                          refine lv_iload_n hx hb d_M_into_170 rfl (lv_at hl 1 rfl) ?_
                          refine lv_bipush (v := 23) hx hb d_M_into_171 (by decide) ?_
                          refine lv_icmp_ne (tgt := 180) hx hb d_M_into_173 (by decide) (fun c_36 => ?_) (fun c_36 => ?_)
                          · skip
                            refine lv_iconst (v := 0) hx hb d_M_into_180 (by decide) ?_
                            exact pm_ret hx hb hr hlk (by decide) (by rw [f_M_into, if_neg c_1, if_pos c_23, if_neg c_24, if_neg c_25, if_neg c_26, if_neg c_27, if_neg c_28, if_neg c_29, if_pos c_30, if_neg c_33, if_neg c_34, if_pos c_35]) d_M_into_181
                          · exact absurd c_36 c_34
                · skip
                  refine lv_iload_n hx hb d_M_into_134 rfl (lv_at hl 1 rfl) ?_
                  refine lv_bipush (v := 17) hx hb d_M_into_135 (by decide) ?_
                  refine lv_icmp_ne (tgt := 144) hx hb d_M_into_137 (by decide) (fun c_37 => ?_) (fun c_37 => ?_)
                  · skip
                    refine lv_iconst (v := 0) hx hb d_M_into_144 (by decide) ?_
                    exact pm_ret hx hb hr hlk (by decide) (by rw [f_M_into, if_neg c_1, if_pos c_23, if_neg c_24, if_neg c_25, if_neg c_26, if_neg c_27, if_neg c_28, if_pos c_29, if_neg c_37]) d_M_into_145
                  · skip
                    refine lv_iconst (v := 1) hx hb d_M_into_140 (by decide) ?_
                    refine lv_goto (tgt := 145) hx hb d_M_into_141 (by decide) ?_
                    exact pm_ret hx hb hr hlk (by decide) (by rw [f_M_into, if_neg c_1, if_pos c_23, if_neg c_24, if_neg c_25, if_neg c_26, if_neg c_27, if_neg c_28, if_pos c_29, if_pos c_37]) d_M_into_145
              · skip
                refine lv_iload_n hx hb d_M_into_110 rfl (lv_at hl 1 rfl) ?_
                refine lv_bipush (v := 14) hx hb d_M_into_111 (by decide) ?_
                refine lv_icmp_eq (tgt := 122) hx hb d_M_into_113 (by decide) (fun c_38 => ?_) (fun c_38 => ?_)
                · skip
                  refine lv_iconst (v := 1) hx hb d_M_into_122 (by decide) ?_
                  refine lv_goto (tgt := 127) hx hb d_M_into_123 (by decide) ?_
                  exact pm_ret hx hb hr hlk (by decide) (by rw [f_M_into, if_neg c_1, if_pos c_23, if_neg c_24, if_neg c_25, if_neg c_26, if_neg c_27, if_pos c_28, if_pos c_38]) d_M_into_127
                · skip
                  refine lv_iload_n hx hb d_M_into_116 rfl (lv_at hl 1 rfl) ?_
                  refine lv_bipush (v := 15) hx hb d_M_into_117 (by decide) ?_
                  refine lv_icmp_ne (tgt := 126) hx hb d_M_into_119 (by decide) (fun c_39 => ?_) (fun c_39 => ?_)
                  · skip
                    refine lv_iconst (v := 0) hx hb d_M_into_126 (by decide) ?_
                    exact pm_ret hx hb hr hlk (by decide) (by rw [f_M_into, if_neg c_1, if_pos c_23, if_neg c_24, if_neg c_25, if_neg c_26, if_neg c_27, if_pos c_28, if_neg c_38, if_neg c_39]) d_M_into_127
                  · skip
                    refine lv_iconst (v := 1) hx hb d_M_into_122 (by decide) ?_
                    refine lv_goto (tgt := 127) hx hb d_M_into_123 (by decide) ?_
                    exact pm_ret hx hb hr hlk (by decide) (by rw [f_M_into, if_neg c_1, if_pos c_23, if_neg c_24, if_neg c_25, if_neg c_26, if_neg c_27, if_pos c_28, if_neg c_38, if_pos c_39]) d_M_into_127
            · skip
              refine lv_iload_n hx hb d_M_into_86 rfl (lv_at hl 1 rfl) ?_
              refine lv_bipush (v := 15) hx hb d_M_into_87 (by decide) ?_
              refine lv_icmp_eq (tgt := 98) hx hb d_M_into_89 (by decide) (fun c_40 => ?_) (fun c_40 => ?_)
              · skip
                refine lv_iconst (v := 1) hx hb d_M_into_98 (by decide) ?_
                refine lv_goto (tgt := 103) hx hb d_M_into_99 (by decide) ?_
                exact pm_ret hx hb hr hlk (by decide) (by rw [f_M_into, if_neg c_1, if_pos c_23, if_neg c_24, if_neg c_25, if_neg c_26, if_pos c_27, if_pos c_40]) d_M_into_103
              · skip
                refine lv_iload_n hx hb d_M_into_92 rfl (lv_at hl 1 rfl) ?_
                refine lv_bipush (v := 23) hx hb d_M_into_93 (by decide) ?_
                refine lv_icmp_ne (tgt := 102) hx hb d_M_into_95 (by decide) (fun c_41 => ?_) (fun c_41 => ?_)
                · skip
                  refine lv_iconst (v := 0) hx hb d_M_into_102 (by decide) ?_
                  exact pm_ret hx hb hr hlk (by decide) (by rw [f_M_into, if_neg c_1, if_pos c_23, if_neg c_24, if_neg c_25, if_neg c_26, if_pos c_27, if_neg c_40, if_neg c_41]) d_M_into_103
                · skip
                  refine lv_iconst (v := 1) hx hb d_M_into_98 (by decide) ?_
                  refine lv_goto (tgt := 103) hx hb d_M_into_99 (by decide) ?_
                  exact pm_ret hx hb hr hlk (by decide) (by rw [f_M_into, if_neg c_1, if_pos c_23, if_neg c_24, if_neg c_25, if_neg c_26, if_pos c_27, if_neg c_40, if_pos c_41]) d_M_into_103
          · skip
            refine lv_iload_n hx hb d_M_into_68 rfl (lv_at hl 1 rfl) ?_
            refine lv_bipush (v := 24) hx hb d_M_into_69 (by decide) ?_
            refine lv_icmp_ne (tgt := 78) hx hb d_M_into_71 (by decide) (fun c_42 => ?_) (fun c_42 => ?_)
            · skip
              refine lv_iconst (v := 0) hx hb d_M_into_78 (by decide) ?_
              exact pm_ret hx hb hr hlk (by decide) (by rw [f_M_into, if_neg c_1, if_pos c_23, if_neg c_24, if_neg c_25, if_pos c_26, if_neg c_42]) d_M_into_79
            · skip
              refine lv_iconst (v := 1) hx hb d_M_into_74 (by decide) ?_
              refine lv_goto (tgt := 79) hx hb d_M_into_75 (by decide) ?_
              exact pm_ret hx hb hr hlk (by decide) (by rw [f_M_into, if_neg c_1, if_pos c_23, if_neg c_24, if_neg c_25, if_pos c_26, if_pos c_42]) d_M_into_79
        · skip
          refine lv_iload_n hx hb d_M_into_49 rfl (lv_at hl 1 rfl) ?_
          refine pm_callE hF hN (c_M_primitive l u) k_M_primitive j_M_102 ⟨Nat.le_of_ble_eq_true rfl, Nat.le_of_ble_eq_true rfl⟩ rfl hl.1 (Nat.le_of_ble_eq_true rfl) d_M_into_50 ⟨Nat.le_refl _, Nat.le_refl _⟩ ?_
          refine lv_if_ne (tgt := 60) hx hb d_M_into_53 (by decide) (fun c_44 => ?_) (fun c_44 => ?_)
          · skip
            refine lv_iconst (v := 0) hx hb d_M_into_60 (by decide) ?_
            exact pm_ret hx hb hr hlk (by decide) (by rw [f_M_into, if_neg c_1, if_pos c_23, if_neg c_24, if_pos c_25, if_neg c_44]) d_M_into_61
          · skip
            refine lv_iconst (v := 1) hx hb d_M_into_56 (by decide) ?_
            refine lv_goto (tgt := 61) hx hb d_M_into_57 (by decide) ?_
            exact pm_ret hx hb hr hlk (by decide) (by rw [f_M_into, if_neg c_1, if_pos c_23, if_neg c_24, if_pos c_25, if_pos c_44]) d_M_into_61
      · skip
        refine lv_iconst (v := 1) hx hb d_M_into_41 (by decide) ?_
        exact pm_ret hx hb hr hlk (by decide) (by rw [f_M_into, if_neg c_1, if_pos c_23, if_pos c_24]) d_M_into_42
    · skip
      refine lv_iload_n hx hb d_M_into_16 rfl (lv_at hl 1 rfl) ?_
      refine lv_iload_n hx hb d_M_into_17 rfl (lv_at hl 0 rfl) ?_
      refine lv_icmp_eq (tgt := 36) hx hb d_M_into_18 (by decide) (fun c_45 => ?_) (fun c_45 => ?_)
      · skip
        refine lv_iload_n hx hb d_M_into_36 rfl (lv_at hl 1 rfl) ?_
        refine lv_iload_n hx hb d_M_into_37 rfl (lv_at hl 0 rfl) ?_
        refine lv_icmp_ne (tgt := 43) hx hb d_M_into_38 (by decide) (fun c_46 => ?_) (fun c_46 => ?_)
        · exact absurd c_45 c_46
        · skip
          refine lv_iconst (v := 1) hx hb d_M_into_41 (by decide) ?_
          exact pm_ret hx hb hr hlk (by decide) (by rw [f_M_into, if_neg c_1, if_neg c_23, if_pos c_45]) d_M_into_42
      · skip
        refine lv_iinc (v := (u + (-40))) (lv' := [(2, .int (u + (-40))), (3, .int t), (0, .int u), (1, .int t)]) hx hb d_M_into_21 hl (k := 1) rfl (by first | rfl | decide) (by decide) rfl (fun ls hl => ?_)
        refine lv_iinc (v := (t + (-40))) (lv' := [(3, .int (t + (-40))), (2, .int (u + (-40))), (0, .int u), (1, .int t)]) hx hb d_M_into_24 hl (k := 1) rfl (by first | rfl | decide) (by decide) rfl (fun ls hl => ?_)
        refine lv_iload_n hx hb d_M_into_27 rfl (lv_at hl 1 rfl) ?_
        refine pm_callE hF hN (c_M_primitive l (u + (-40))) k_M_primitive j_M_102 ⟨Nat.le_of_ble_eq_true rfl, Nat.le_of_ble_eq_true rfl⟩ rfl hl.1 (Nat.le_of_ble_eq_true rfl) d_M_into_28 ⟨Nat.le_refl _, Nat.le_refl _⟩ ?_
        refine lv_if_eq (tgt := 4) hx hb d_M_into_31 (by decide) (fun c_48 => ?_) (fun c_48 => ?_)
        · skip
          refine lv_iload_n hx hb d_M_into_4 rfl (lv_at hl 1 rfl) ?_
          refine lv_bipush (v := 40) hx hb d_M_into_5 (by decide) ?_
          refine lv_icmp_lt (tgt := 36) hx hb d_M_into_7 (by decide) (fun c_49 => ?_) (fun c_49 => ?_)
          · skip
            refine lv_iload_n hx hb d_M_into_36 rfl (lv_at hl 1 rfl) ?_
            refine lv_iload_n hx hb d_M_into_37 rfl (lv_at hl 0 rfl) ?_
            refine lv_icmp_ne (tgt := 43) hx hb d_M_into_38 (by decide) (fun c_50 => ?_) (fun c_50 => ?_)
            · skip
              refine lv_iload_n hx hb d_M_into_43 rfl (lv_at hl 0 rfl) ?_
              refine lv_bipush (v := 9) hx hb d_M_into_44 (by decide) ?_
              refine lv_icmp_ne (tgt := 62) hx hb d_M_into_46 (by decide) (fun c_51 => ?_) (fun c_51 => ?_)
              · skip
                refine lv_iload_n hx hb d_M_into_62 rfl (lv_at hl 0 rfl) ?_
                refine lv_bipush (v := 10) hx hb d_M_into_63 (by decide) ?_
                refine lv_icmp_ne (tgt := 80) hx hb d_M_into_65 (by decide) (fun c_52 => ?_) (fun c_52 => ?_)
                · skip
                  refine lv_iload_n hx hb d_M_into_80 rfl (lv_at hl 0 rfl) ?_
                  refine lv_bipush (v := 12) hx hb d_M_into_81 (by decide) ?_
                  refine lv_icmp_ne (tgt := 104) hx hb d_M_into_83 (by decide) (fun c_53 => ?_) (fun c_53 => ?_)
                  · skip
                    refine lv_iload_n hx hb d_M_into_104 rfl (lv_at hl 0 rfl) ?_
                    refine lv_bipush (v := 13) hx hb d_M_into_105 (by decide) ?_
                    refine lv_icmp_ne (tgt := 128) hx hb d_M_into_107 (by decide) (fun c_54 => ?_) (fun c_54 => ?_)
                    · skip
                      refine lv_iload_n hx hb d_M_into_128 rfl (lv_at hl 0 rfl) ?_
                      refine lv_bipush (v := 16) hx hb d_M_into_129 (by decide) ?_
                      refine lv_icmp_ne (tgt := 146) hx hb d_M_into_131 (by decide) (fun c_55 => ?_) (fun c_55 => ?_)
                      · skip
                        refine lv_iload_n hx hb d_M_into_146 rfl (lv_at hl 0 rfl) ?_
                        refine lv_bipush (v := 21) hx hb d_M_into_147 (by decide) ?_
                        refine lv_icmp_ne (tgt := 164) hx hb d_M_into_149 (by decide) (fun c_56 => ?_) (fun c_56 => ?_)
                        · skip
                          refine lv_iload_n hx hb d_M_into_164 rfl (lv_at hl 0 rfl) ?_
                          refine lv_bipush (v := 22) hx hb d_M_into_165 (by decide) ?_
                          refine lv_icmp_ne (tgt := 180) hx hb d_M_into_167 (by decide) (fun c_57 => ?_) (fun c_57 => ?_)
                          · skip
                            refine lv_iconst (v := 0) hx hb d_M_into_180 (by decide) ?_
                            exact pm_ret hx hb hr hlk (by decide) (by rw [f_M_into, if_neg c_1, if_neg c_23, if_neg c_45, if_pos c_48, if_pos c_49, if_neg c_50, if_neg c_51, if_neg c_52, if_neg c_53, if_neg c_54, if_neg c_55, if_neg c_56, if_neg c_57]) d_M_into_181
                          · skip
                            refine lv_iload_n hx hb d_M_into_170 rfl (lv_at hl 1 rfl) ?_
                            refine lv_bipush (v := 23) hx hb d_M_into_171 (by decide) ?_
                            refine lv_icmp_ne (tgt := 180) hx hb d_M_into_173 (by decide) (fun c_58 => ?_) (fun c_58 => ?_)
                            · skip
                              refine lv_iconst (v := 0) hx hb d_M_into_180 (by decide) ?_
                              exact pm_ret hx hb hr hlk (by decide) (by rw [f_M_into, if_neg c_1, if_neg c_23, if_neg c_45, if_pos c_48, if_pos c_49, if_neg c_50, if_neg c_51, if_neg c_52, if_neg c_53, if_neg c_54, if_neg c_55, if_neg c_56, if_pos c_57, if_neg c_58]) d_M_into_181
                            · skip
                              refine lv_iconst (v := 1) hx hb d_M_into_176 (by decide) ?_
                              refine lv_goto (tgt := 181) hx hb d_M_into_177 (by decide) ?_
                              exact pm_ret hx hb hr hlk (by decide) (by rw [f_M_into, if_neg c_1, if_neg c_23, if_neg c_45, if_pos c_48, if_pos c_49, if_neg c_50, if_neg c_51, if_neg c_52, if_neg c_53, if_neg c_54, if_neg c_55, if_neg c_56, if_pos c_57, if_pos c_58]) d_M_into_181
                        · skip
                          refine lv_iload_n hx hb d_M_into_152 rfl (lv_at hl 1 rfl) ?_
                          refine lv_bipush (v := 22) hx hb d_M_into_153 (by decide) ?_
                          refine lv_icmp_eq (tgt := 176) hx hb d_M_into_155 (by decide) (fun c_59 => ?_) (fun c_59 => ?_)
                          · skip
                            refine lv_iconst (v := 1) hx hb d_M_into_176 (by decide) ?_
                            refine lv_goto (tgt := 181) hx hb d_M_into_177 (by decide) ?_
                            exact pm_ret hx hb hr hlk (by decide) (by rw [f_M_into, if_neg c_1, if_neg c_23, if_neg c_45, if_pos c_48, if_pos c_49, if_neg c_50, if_neg c_51, if_neg c_52, if_neg c_53, if_neg c_54, if_neg c_55, if_pos c_56, if_pos c_59]) d_M_into_181
                          · skip
                            refine lv_iload_n hx hb d_M_into_158 rfl (lv_at hl 1 rfl) ?_
                            refine lv_bipush (v := 23) hx hb d_M_into_159 (by decide) ?_
                            refine lv_icmp_eq (tgt := 176) hx hb d_M_into_161 (by decide) (fun c_60 => ?_) (fun c_60 => ?_)
                            · skip
                              refine lv_iconst (v := 1) hx hb d_M_into_176 (by decide) ?_
                              refine lv_goto (tgt := 181) hx hb d_M_into_177 (by decide) ?_
                              exact pm_ret hx hb hr hlk (by decide) (by rw [f_M_into, if_neg c_1, if_neg c_23, if_neg c_45, if_pos c_48, if_pos c_49, if_neg c_50, if_neg c_51, if_neg c_52, if_neg c_53, if_neg c_54, if_neg c_55, if_pos c_56, if_neg c_59, if_pos c_60]) d_M_into_181
                            · skip
                              refine lv_iload_n hx hb d_M_into_164 rfl (lv_at hl 0 rfl) ?_
                              refine lv_bipush (v := 22) hx hb d_M_into_165 (by decide) ?_
                              refine lv_icmp_ne (tgt := 180) hx hb d_M_into_167 (by decide) (fun c_61 => ?_) (fun c_61 => ?_)
                              · skip
                                refine lv_iconst (v := 0) hx hb d_M_into_180 (by decide) ?_
                                exact pm_ret hx hb hr hlk (by decide) (by rw [f_M_into, if_neg c_1, if_neg c_23, if_neg c_45, if_pos c_48, if_pos c_49, if_neg c_50, if_neg c_51, if_neg c_52, if_neg c_53, if_neg c_54, if_neg c_55, if_pos c_56, if_neg c_59, if_neg c_60, if_neg c_61]) d_M_into_181
                              · skip
                                refine lv_iload_n hx hb d_M_into_170 rfl (lv_at hl 1 rfl) ?_
                                refine lv_bipush (v := 23) hx hb d_M_into_171 (by decide) ?_
                                refine lv_icmp_ne (tgt := 180) hx hb d_M_into_173 (by decide) (fun c_62 => ?_) (fun c_62 => ?_)
                                · skip
                                  refine lv_iconst (v := 0) hx hb d_M_into_180 (by decide) ?_
                                  exact pm_ret hx hb hr hlk (by decide) (by rw [f_M_into, if_neg c_1, if_neg c_23, if_neg c_45, if_pos c_48, if_pos c_49, if_neg c_50, if_neg c_51, if_neg c_52, if_neg c_53, if_neg c_54, if_neg c_55, if_pos c_56, if_neg c_59, if_neg c_60, if_pos c_61]) d_M_into_181
                                · exact absurd c_62 c_60
                      · skip
                        refine lv_iload_n hx hb d_M_into_134 rfl (lv_at hl 1 rfl) ?_
                        refine lv_bipush (v := 17) hx hb d_M_into_135 (by decide) ?_
                        refine lv_icmp_ne (tgt := 144) hx hb d_M_into_137 (by decide) (fun c_63 => ?_) (fun c_63 => ?_)
                        · skip
                          refine lv_iconst (v := 0) hx hb d_M_into_144 (by decide) ?_
                          exact pm_ret hx hb hr hlk (by decide) (by rw [f_M_into, if_neg c_1, if_neg c_23, if_neg c_45, if_pos c_48, if_pos c_49, if_neg c_50, if_neg c_51, if_neg c_52, if_neg c_53, if_neg c_54, if_pos c_55, if_neg c_63]) d_M_into_145
                        · skip
                          refine lv_iconst (v := 1) hx hb d_M_into_140 (by decide) ?_
                          refine lv_goto (tgt := 145) hx hb d_M_into_141 (by decide) ?_
                          exact pm_ret hx hb hr hlk (by decide) (by rw [f_M_into, if_neg c_1, if_neg c_23, if_neg c_45, if_pos c_48, if_pos c_49, if_neg c_50, if_neg c_51, if_neg c_52, if_neg c_53, if_neg c_54, if_pos c_55, if_pos c_63]) d_M_into_145
                    · skip
                      refine lv_iload_n hx hb d_M_into_110 rfl (lv_at hl 1 rfl) ?_
                      refine lv_bipush (v := 14) hx hb d_M_into_111 (by decide) ?_
                      refine lv_icmp_eq (tgt := 122) hx hb d_M_into_113 (by decide) (fun c_64 => ?_) (fun c_64 => ?_)
                      · skip
                        refine lv_iconst (v := 1) hx hb d_M_into_122 (by decide) ?_
                        refine lv_goto (tgt := 127) hx hb d_M_into_123 (by decide) ?_
                        exact pm_ret hx hb hr hlk (by decide) (by rw [f_M_into, if_neg c_1, if_neg c_23, if_neg c_45, if_pos c_48, if_pos c_49, if_neg c_50, if_neg c_51, if_neg c_52, if_neg c_53, if_pos c_54, if_pos c_64]) d_M_into_127
                      · skip
                        refine lv_iload_n hx hb d_M_into_116 rfl (lv_at hl 1 rfl) ?_
                        refine lv_bipush (v := 15) hx hb d_M_into_117 (by decide) ?_
                        refine lv_icmp_ne (tgt := 126) hx hb d_M_into_119 (by decide) (fun c_65 => ?_) (fun c_65 => ?_)
                        · skip
                          refine lv_iconst (v := 0) hx hb d_M_into_126 (by decide) ?_
                          exact pm_ret hx hb hr hlk (by decide) (by rw [f_M_into, if_neg c_1, if_neg c_23, if_neg c_45, if_pos c_48, if_pos c_49, if_neg c_50, if_neg c_51, if_neg c_52, if_neg c_53, if_pos c_54, if_neg c_64, if_neg c_65]) d_M_into_127
                        · skip
                          refine lv_iconst (v := 1) hx hb d_M_into_122 (by decide) ?_
                          refine lv_goto (tgt := 127) hx hb d_M_into_123 (by decide) ?_
                          exact pm_ret hx hb hr hlk (by decide) (by rw [f_M_into, if_neg c_1, if_neg c_23, if_neg c_45, if_pos c_48, if_pos c_49, if_neg c_50, if_neg c_51, if_neg c_52, if_neg c_53, if_pos c_54, if_neg c_64, if_pos c_65]) d_M_into_127
                  · skip
                    refine lv_iload_n hx hb d_M_into_86 rfl (lv_at hl 1 rfl) ?_
                    refine lv_bipush (v := 15) hx hb d_M_into_87 (by decide) ?_
                    refine lv_icmp_eq (tgt := 98) hx hb d_M_into_89 (by decide) (fun c_66 => ?_) (fun c_66 => ?_)
                    · skip
                      refine lv_iconst (v := 1) hx hb d_M_into_98 (by decide) ?_
                      refine lv_goto (tgt := 103) hx hb d_M_into_99 (by decide) ?_
                      exact pm_ret hx hb hr hlk (by decide) (by rw [f_M_into, if_neg c_1, if_neg c_23, if_neg c_45, if_pos c_48, if_pos c_49, if_neg c_50, if_neg c_51, if_neg c_52, if_pos c_53, if_pos c_66]) d_M_into_103
                    · skip
                      refine lv_iload_n hx hb d_M_into_92 rfl (lv_at hl 1 rfl) ?_
                      refine lv_bipush (v := 23) hx hb d_M_into_93 (by decide) ?_
                      refine lv_icmp_ne (tgt := 102) hx hb d_M_into_95 (by decide) (fun c_67 => ?_) (fun c_67 => ?_)
                      · skip
                        refine lv_iconst (v := 0) hx hb d_M_into_102 (by decide) ?_
                        exact pm_ret hx hb hr hlk (by decide) (by rw [f_M_into, if_neg c_1, if_neg c_23, if_neg c_45, if_pos c_48, if_pos c_49, if_neg c_50, if_neg c_51, if_neg c_52, if_pos c_53, if_neg c_66, if_neg c_67]) d_M_into_103
                      · skip
                        refine lv_iconst (v := 1) hx hb d_M_into_98 (by decide) ?_
                        refine lv_goto (tgt := 103) hx hb d_M_into_99 (by decide) ?_
                        exact pm_ret hx hb hr hlk (by decide) (by rw [f_M_into, if_neg c_1, if_neg c_23, if_neg c_45, if_pos c_48, if_pos c_49, if_neg c_50, if_neg c_51, if_neg c_52, if_pos c_53, if_neg c_66, if_pos c_67]) d_M_into_103
                · skip
                  refine lv_iload_n hx hb d_M_into_68 rfl (lv_at hl 1 rfl) ?_
                  refine lv_bipush (v := 24) hx hb d_M_into_69 (by decide) ?_
                  refine lv_icmp_ne (tgt := 78) hx hb d_M_into_71 (by decide) (fun c_68 => ?_) (fun c_68 => ?_)
                  · skip
                    refine lv_iconst (v := 0) hx hb d_M_into_78 (by decide) ?_
                    exact pm_ret hx hb hr hlk (by decide) (by rw [f_M_into, if_neg c_1, if_neg c_23, if_neg c_45, if_pos c_48, if_pos c_49, if_neg c_50, if_neg c_51, if_pos c_52, if_neg c_68]) d_M_into_79
                  · skip
                    refine lv_iconst (v := 1) hx hb d_M_into_74 (by decide) ?_
                    refine lv_goto (tgt := 79) hx hb d_M_into_75 (by decide) ?_
                    exact pm_ret hx hb hr hlk (by decide) (by rw [f_M_into, if_neg c_1, if_neg c_23, if_neg c_45, if_pos c_48, if_pos c_49, if_neg c_50, if_neg c_51, if_pos c_52, if_pos c_68]) d_M_into_79
              · skip
                refine lv_iload_n hx hb d_M_into_49 rfl (lv_at hl 1 rfl) ?_
                refine pm_callE hF hN (c_M_primitive l (u + (-40))) k_M_primitive j_M_102 ⟨Nat.le_of_ble_eq_true rfl, Nat.le_of_ble_eq_true rfl⟩ rfl hl.1 (Nat.le_of_ble_eq_true rfl) d_M_into_50 ⟨Nat.le_refl _, Nat.le_refl _⟩ ?_
                refine lv_if_ne (tgt := 60) hx hb d_M_into_53 (by decide) (fun c_70 => ?_) (fun c_70 => ?_)
                · exact absurd c_48 c_70
                · skip
                  refine lv_iconst (v := 1) hx hb d_M_into_56 (by decide) ?_
                  refine lv_goto (tgt := 61) hx hb d_M_into_57 (by decide) ?_
                  exact pm_ret hx hb hr hlk (by decide) (by rw [f_M_into, if_neg c_1, if_neg c_23, if_neg c_45, if_pos c_48, if_pos c_49, if_neg c_50, if_pos c_51]) d_M_into_61
            · skip
              refine lv_iconst (v := 1) hx hb d_M_into_41 (by decide) ?_
              exact pm_ret hx hb hr hlk (by decide) (by rw [f_M_into, if_neg c_1, if_neg c_23, if_neg c_45, if_pos c_48, if_pos c_49, if_pos c_50]) d_M_into_42
          · skip
            refine lv_iload_n hx hb d_M_into_10 rfl (lv_at hl 0 rfl) ?_
            refine lv_bipush (v := 40) hx hb d_M_into_11 (by decide) ?_
            refine lv_icmp_lt (tgt := 36) hx hb d_M_into_13 (by decide) (fun c_71 => ?_) (fun c_71 => ?_)
            · skip
              refine lv_iload_n hx hb d_M_into_36 rfl (lv_at hl 1 rfl) ?_
              refine lv_iload_n hx hb d_M_into_37 rfl (lv_at hl 0 rfl) ?_
              refine lv_icmp_ne (tgt := 43) hx hb d_M_into_38 (by decide) (fun c_72 => ?_) (fun c_72 => ?_)
              · skip
                refine lv_iload_n hx hb d_M_into_43 rfl (lv_at hl 0 rfl) ?_
                refine lv_bipush (v := 9) hx hb d_M_into_44 (by decide) ?_
                refine lv_icmp_ne (tgt := 62) hx hb d_M_into_46 (by decide) (fun c_73 => ?_) (fun c_73 => ?_)
                · skip
                  refine lv_iload_n hx hb d_M_into_62 rfl (lv_at hl 0 rfl) ?_
                  refine lv_bipush (v := 10) hx hb d_M_into_63 (by decide) ?_
                  refine lv_icmp_ne (tgt := 80) hx hb d_M_into_65 (by decide) (fun c_74 => ?_) (fun c_74 => ?_)
                  · skip
                    refine lv_iload_n hx hb d_M_into_80 rfl (lv_at hl 0 rfl) ?_
                    refine lv_bipush (v := 12) hx hb d_M_into_81 (by decide) ?_
                    refine lv_icmp_ne (tgt := 104) hx hb d_M_into_83 (by decide) (fun c_75 => ?_) (fun c_75 => ?_)
                    · skip
                      refine lv_iload_n hx hb d_M_into_104 rfl (lv_at hl 0 rfl) ?_
                      refine lv_bipush (v := 13) hx hb d_M_into_105 (by decide) ?_
                      refine lv_icmp_ne (tgt := 128) hx hb d_M_into_107 (by decide) (fun c_76 => ?_) (fun c_76 => ?_)
                      · skip
                        refine lv_iload_n hx hb d_M_into_128 rfl (lv_at hl 0 rfl) ?_
                        refine lv_bipush (v := 16) hx hb d_M_into_129 (by decide) ?_
                        refine lv_icmp_ne (tgt := 146) hx hb d_M_into_131 (by decide) (fun c_77 => ?_) (fun c_77 => ?_)
                        · skip
                          refine lv_iload_n hx hb d_M_into_146 rfl (lv_at hl 0 rfl) ?_
                          refine lv_bipush (v := 21) hx hb d_M_into_147 (by decide) ?_
                          refine lv_icmp_ne (tgt := 164) hx hb d_M_into_149 (by decide) (fun c_78 => ?_) (fun c_78 => ?_)
                          · skip
                            refine lv_iload_n hx hb d_M_into_164 rfl (lv_at hl 0 rfl) ?_
                            refine lv_bipush (v := 22) hx hb d_M_into_165 (by decide) ?_
                            refine lv_icmp_ne (tgt := 180) hx hb d_M_into_167 (by decide) (fun c_79 => ?_) (fun c_79 => ?_)
                            · skip
                              refine lv_iconst (v := 0) hx hb d_M_into_180 (by decide) ?_
                              exact pm_ret hx hb hr hlk (by decide) (by rw [f_M_into, if_neg c_1, if_neg c_23, if_neg c_45, if_pos c_48, if_neg c_49, if_pos c_71, if_neg c_72, if_neg c_73, if_neg c_74, if_neg c_75, if_neg c_76, if_neg c_77, if_neg c_78, if_neg c_79]) d_M_into_181
                            · skip
                              refine lv_iload_n hx hb d_M_into_170 rfl (lv_at hl 1 rfl) ?_
                              refine lv_bipush (v := 23) hx hb d_M_into_171 (by decide) ?_
                              refine lv_icmp_ne (tgt := 180) hx hb d_M_into_173 (by decide) (fun c_80 => ?_) (fun c_80 => ?_)
                              · skip
                                refine lv_iconst (v := 0) hx hb d_M_into_180 (by decide) ?_
                                exact pm_ret hx hb hr hlk (by decide) (by rw [f_M_into, if_neg c_1, if_neg c_23, if_neg c_45, if_pos c_48, if_neg c_49, if_pos c_71, if_neg c_72, if_neg c_73, if_neg c_74, if_neg c_75, if_neg c_76, if_neg c_77, if_neg c_78, if_pos c_79, if_neg c_80]) d_M_into_181
                              · skip
                                refine lv_iconst (v := 1) hx hb d_M_into_176 (by decide) ?_
                                refine lv_goto (tgt := 181) hx hb d_M_into_177 (by decide) ?_
                                exact pm_ret hx hb hr hlk (by decide) (by rw [f_M_into, if_neg c_1, if_neg c_23, if_neg c_45, if_pos c_48, if_neg c_49, if_pos c_71, if_neg c_72, if_neg c_73, if_neg c_74, if_neg c_75, if_neg c_76, if_neg c_77, if_neg c_78, if_pos c_79, if_pos c_80]) d_M_into_181
                          · skip
                            refine lv_iload_n hx hb d_M_into_152 rfl (lv_at hl 1 rfl) ?_
                            refine lv_bipush (v := 22) hx hb d_M_into_153 (by decide) ?_
                            refine lv_icmp_eq (tgt := 176) hx hb d_M_into_155 (by decide) (fun c_81 => ?_) (fun c_81 => ?_)
                            · skip
                              refine lv_iconst (v := 1) hx hb d_M_into_176 (by decide) ?_
                              refine lv_goto (tgt := 181) hx hb d_M_into_177 (by decide) ?_
                              exact pm_ret hx hb hr hlk (by decide) (by rw [f_M_into, if_neg c_1, if_neg c_23, if_neg c_45, if_pos c_48, if_neg c_49, if_pos c_71, if_neg c_72, if_neg c_73, if_neg c_74, if_neg c_75, if_neg c_76, if_neg c_77, if_pos c_78, if_pos c_81]) d_M_into_181
                            · skip
                              refine lv_iload_n hx hb d_M_into_158 rfl (lv_at hl 1 rfl) ?_
                              refine lv_bipush (v := 23) hx hb d_M_into_159 (by decide) ?_
                              refine lv_icmp_eq (tgt := 176) hx hb d_M_into_161 (by decide) (fun c_82 => ?_) (fun c_82 => ?_)
                              · skip
                                refine lv_iconst (v := 1) hx hb d_M_into_176 (by decide) ?_
                                refine lv_goto (tgt := 181) hx hb d_M_into_177 (by decide) ?_
                                exact pm_ret hx hb hr hlk (by decide) (by rw [f_M_into, if_neg c_1, if_neg c_23, if_neg c_45, if_pos c_48, if_neg c_49, if_pos c_71, if_neg c_72, if_neg c_73, if_neg c_74, if_neg c_75, if_neg c_76, if_neg c_77, if_pos c_78, if_neg c_81, if_pos c_82]) d_M_into_181
                              · skip
                                refine lv_iload_n hx hb d_M_into_164 rfl (lv_at hl 0 rfl) ?_
                                refine lv_bipush (v := 22) hx hb d_M_into_165 (by decide) ?_
                                refine lv_icmp_ne (tgt := 180) hx hb d_M_into_167 (by decide) (fun c_83 => ?_) (fun c_83 => ?_)
                                · skip
                                  refine lv_iconst (v := 0) hx hb d_M_into_180 (by decide) ?_
                                  exact pm_ret hx hb hr hlk (by decide) (by rw [f_M_into, if_neg c_1, if_neg c_23, if_neg c_45, if_pos c_48, if_neg c_49, if_pos c_71, if_neg c_72, if_neg c_73, if_neg c_74, if_neg c_75, if_neg c_76, if_neg c_77, if_pos c_78, if_neg c_81, if_neg c_82, if_neg c_83]) d_M_into_181
                                · skip
                                  refine lv_iload_n hx hb d_M_into_170 rfl (lv_at hl 1 rfl) ?_
                                  refine lv_bipush (v := 23) hx hb d_M_into_171 (by decide) ?_
                                  refine lv_icmp_ne (tgt := 180) hx hb d_M_into_173 (by decide) (fun c_84 => ?_) (fun c_84 => ?_)
                                  · skip
                                    refine lv_iconst (v := 0) hx hb d_M_into_180 (by decide) ?_
                                    exact pm_ret hx hb hr hlk (by decide) (by rw [f_M_into, if_neg c_1, if_neg c_23, if_neg c_45, if_pos c_48, if_neg c_49, if_pos c_71, if_neg c_72, if_neg c_73, if_neg c_74, if_neg c_75, if_neg c_76, if_neg c_77, if_pos c_78, if_neg c_81, if_neg c_82, if_pos c_83]) d_M_into_181
                                  · exact absurd c_84 c_82
                        · skip
                          refine lv_iload_n hx hb d_M_into_134 rfl (lv_at hl 1 rfl) ?_
                          refine lv_bipush (v := 17) hx hb d_M_into_135 (by decide) ?_
                          refine lv_icmp_ne (tgt := 144) hx hb d_M_into_137 (by decide) (fun c_85 => ?_) (fun c_85 => ?_)
                          · skip
                            refine lv_iconst (v := 0) hx hb d_M_into_144 (by decide) ?_
                            exact pm_ret hx hb hr hlk (by decide) (by rw [f_M_into, if_neg c_1, if_neg c_23, if_neg c_45, if_pos c_48, if_neg c_49, if_pos c_71, if_neg c_72, if_neg c_73, if_neg c_74, if_neg c_75, if_neg c_76, if_pos c_77, if_neg c_85]) d_M_into_145
                          · skip
                            refine lv_iconst (v := 1) hx hb d_M_into_140 (by decide) ?_
                            refine lv_goto (tgt := 145) hx hb d_M_into_141 (by decide) ?_
                            exact pm_ret hx hb hr hlk (by decide) (by rw [f_M_into, if_neg c_1, if_neg c_23, if_neg c_45, if_pos c_48, if_neg c_49, if_pos c_71, if_neg c_72, if_neg c_73, if_neg c_74, if_neg c_75, if_neg c_76, if_pos c_77, if_pos c_85]) d_M_into_145
                      · skip
                        refine lv_iload_n hx hb d_M_into_110 rfl (lv_at hl 1 rfl) ?_
                        refine lv_bipush (v := 14) hx hb d_M_into_111 (by decide) ?_
                        refine lv_icmp_eq (tgt := 122) hx hb d_M_into_113 (by decide) (fun c_86 => ?_) (fun c_86 => ?_)
                        · skip
                          refine lv_iconst (v := 1) hx hb d_M_into_122 (by decide) ?_
                          refine lv_goto (tgt := 127) hx hb d_M_into_123 (by decide) ?_
                          exact pm_ret hx hb hr hlk (by decide) (by rw [f_M_into, if_neg c_1, if_neg c_23, if_neg c_45, if_pos c_48, if_neg c_49, if_pos c_71, if_neg c_72, if_neg c_73, if_neg c_74, if_neg c_75, if_pos c_76, if_pos c_86]) d_M_into_127
                        · skip
                          refine lv_iload_n hx hb d_M_into_116 rfl (lv_at hl 1 rfl) ?_
                          refine lv_bipush (v := 15) hx hb d_M_into_117 (by decide) ?_
                          refine lv_icmp_ne (tgt := 126) hx hb d_M_into_119 (by decide) (fun c_87 => ?_) (fun c_87 => ?_)
                          · skip
                            refine lv_iconst (v := 0) hx hb d_M_into_126 (by decide) ?_
                            exact pm_ret hx hb hr hlk (by decide) (by rw [f_M_into, if_neg c_1, if_neg c_23, if_neg c_45, if_pos c_48, if_neg c_49, if_pos c_71, if_neg c_72, if_neg c_73, if_neg c_74, if_neg c_75, if_pos c_76, if_neg c_86, if_neg c_87]) d_M_into_127
                          · skip
                            refine lv_iconst (v := 1) hx hb d_M_into_122 (by decide) ?_
                            refine lv_goto (tgt := 127) hx hb d_M_into_123 (by decide) ?_
                            exact pm_ret hx hb hr hlk (by decide) (by rw [f_M_into, if_neg c_1, if_neg c_23, if_neg c_45, if_pos c_48, if_neg c_49, if_pos c_71, if_neg c_72, if_neg c_73, if_neg c_74, if_neg c_75, if_pos c_76, if_neg c_86, if_pos c_87]) d_M_into_127
                    · skip
                      refine lv_iload_n hx hb d_M_into_86 rfl (lv_at hl 1 rfl) ?_
                      refine lv_bipush (v := 15) hx hb d_M_into_87 (by decide) ?_
                      refine lv_icmp_eq (tgt := 98) hx hb d_M_into_89 (by decide) (fun c_88 => ?_) (fun c_88 => ?_)
                      · skip
                        refine lv_iconst (v := 1) hx hb d_M_into_98 (by decide) ?_
                        refine lv_goto (tgt := 103) hx hb d_M_into_99 (by decide) ?_
                        exact pm_ret hx hb hr hlk (by decide) (by rw [f_M_into, if_neg c_1, if_neg c_23, if_neg c_45, if_pos c_48, if_neg c_49, if_pos c_71, if_neg c_72, if_neg c_73, if_neg c_74, if_pos c_75, if_pos c_88]) d_M_into_103
                      · skip
                        refine lv_iload_n hx hb d_M_into_92 rfl (lv_at hl 1 rfl) ?_
                        refine lv_bipush (v := 23) hx hb d_M_into_93 (by decide) ?_
                        refine lv_icmp_ne (tgt := 102) hx hb d_M_into_95 (by decide) (fun c_89 => ?_) (fun c_89 => ?_)
                        · skip
                          refine lv_iconst (v := 0) hx hb d_M_into_102 (by decide) ?_
                          exact pm_ret hx hb hr hlk (by decide) (by rw [f_M_into, if_neg c_1, if_neg c_23, if_neg c_45, if_pos c_48, if_neg c_49, if_pos c_71, if_neg c_72, if_neg c_73, if_neg c_74, if_pos c_75, if_neg c_88, if_neg c_89]) d_M_into_103
                        · skip
                          refine lv_iconst (v := 1) hx hb d_M_into_98 (by decide) ?_
                          refine lv_goto (tgt := 103) hx hb d_M_into_99 (by decide) ?_
                          exact pm_ret hx hb hr hlk (by decide) (by rw [f_M_into, if_neg c_1, if_neg c_23, if_neg c_45, if_pos c_48, if_neg c_49, if_pos c_71, if_neg c_72, if_neg c_73, if_neg c_74, if_pos c_75, if_neg c_88, if_pos c_89]) d_M_into_103
                  · skip
                    refine lv_iload_n hx hb d_M_into_68 rfl (lv_at hl 1 rfl) ?_
                    refine lv_bipush (v := 24) hx hb d_M_into_69 (by decide) ?_
                    refine lv_icmp_ne (tgt := 78) hx hb d_M_into_71 (by decide) (fun c_90 => ?_) (fun c_90 => ?_)
                    · skip
                      refine lv_iconst (v := 0) hx hb d_M_into_78 (by decide) ?_
                      exact pm_ret hx hb hr hlk (by decide) (by rw [f_M_into, if_neg c_1, if_neg c_23, if_neg c_45, if_pos c_48, if_neg c_49, if_pos c_71, if_neg c_72, if_neg c_73, if_pos c_74, if_neg c_90]) d_M_into_79
                    · skip
                      refine lv_iconst (v := 1) hx hb d_M_into_74 (by decide) ?_
                      refine lv_goto (tgt := 79) hx hb d_M_into_75 (by decide) ?_
                      exact pm_ret hx hb hr hlk (by decide) (by rw [f_M_into, if_neg c_1, if_neg c_23, if_neg c_45, if_pos c_48, if_neg c_49, if_pos c_71, if_neg c_72, if_neg c_73, if_pos c_74, if_pos c_90]) d_M_into_79
                · skip
                  refine lv_iload_n hx hb d_M_into_49 rfl (lv_at hl 1 rfl) ?_
                  refine pm_callE hF hN (c_M_primitive l (u + (-40))) k_M_primitive j_M_102 ⟨Nat.le_of_ble_eq_true rfl, Nat.le_of_ble_eq_true rfl⟩ rfl hl.1 (Nat.le_of_ble_eq_true rfl) d_M_into_50 ⟨Nat.le_refl _, Nat.le_refl _⟩ ?_
                  refine lv_if_ne (tgt := 60) hx hb d_M_into_53 (by decide) (fun c_92 => ?_) (fun c_92 => ?_)
                  · exact absurd c_48 c_92
                  · skip
                    refine lv_iconst (v := 1) hx hb d_M_into_56 (by decide) ?_
                    refine lv_goto (tgt := 61) hx hb d_M_into_57 (by decide) ?_
                    exact pm_ret hx hb hr hlk (by decide) (by rw [f_M_into, if_neg c_1, if_neg c_23, if_neg c_45, if_pos c_48, if_neg c_49, if_pos c_71, if_neg c_72, if_pos c_73]) d_M_into_61
              · skip
                refine lv_iconst (v := 1) hx hb d_M_into_41 (by decide) ?_
                exact pm_ret hx hb hr hlk (by decide) (by rw [f_M_into, if_neg c_1, if_neg c_23, if_neg c_45, if_pos c_48, if_neg c_49, if_pos c_71, if_pos c_72]) d_M_into_42
            · skip
              refine lv_iload_n hx hb d_M_into_16 rfl (lv_at hl 1 rfl) ?_
              refine lv_iload_n hx hb d_M_into_17 rfl (lv_at hl 0 rfl) ?_
              refine lv_icmp_eq (tgt := 36) hx hb d_M_into_18 (by decide) (fun c_93 => ?_) (fun c_93 => ?_)
              · skip
                refine lv_iload_n hx hb d_M_into_36 rfl (lv_at hl 1 rfl) ?_
                refine lv_iload_n hx hb d_M_into_37 rfl (lv_at hl 0 rfl) ?_
                refine lv_icmp_ne (tgt := 43) hx hb d_M_into_38 (by decide) (fun c_94 => ?_) (fun c_94 => ?_)
                · exact absurd c_93 c_94
                · skip
                  refine lv_iconst (v := 1) hx hb d_M_into_41 (by decide) ?_
                  exact pm_ret hx hb hr hlk (by decide) (by rw [f_M_into, if_neg c_1, if_neg c_23, if_neg c_45, if_pos c_48, if_neg c_49, if_neg c_71, if_pos c_93]) d_M_into_42
              · skip
                refine lv_iinc (v := ((u + (-40)) + (-40))) (lv' := [(2, .int ((u + (-40)) + (-40))), (3, .int (t + (-40))), (0, .int u), (1, .int t)]) hx hb d_M_into_21 hl (k := 1) rfl (by first | rfl | decide) (by decide) rfl (fun ls hl => ?_)
                refine lv_iinc (v := ((t + (-40)) + (-40))) (lv' := [(3, .int ((t + (-40)) + (-40))), (2, .int ((u + (-40)) + (-40))), (0, .int u), (1, .int t)]) hx hb d_M_into_24 hl (k := 1) rfl (by first | rfl | decide) (by decide) rfl (fun ls hl => ?_)
                refine lv_iload_n hx hb d_M_into_27 rfl (lv_at hl 1 rfl) ?_
                refine pm_callE hF hN (c_M_primitive l ((u + (-40)) + (-40))) k_M_primitive j_M_102 ⟨Nat.le_of_ble_eq_true rfl, Nat.le_of_ble_eq_true rfl⟩ rfl hl.1 (Nat.le_of_ble_eq_true rfl) d_M_into_28 ⟨Nat.le_refl _, Nat.le_refl _⟩ ?_
                refine lv_if_eq (tgt := 4) hx hb d_M_into_31 (by decide) (fun c_96 => ?_) (fun c_96 => ?_)
                · skip
                  refine lv_iload_n hx hb d_M_into_4 rfl (lv_at hl 1 rfl) ?_
                  refine lv_bipush (v := 40) hx hb d_M_into_5 (by decide) ?_
                  refine lv_icmp_lt (tgt := 36) hx hb d_M_into_7 (by decide) (fun c_97 => ?_) (fun c_97 => ?_)
                  · skip
                    refine lv_iload_n hx hb d_M_into_36 rfl (lv_at hl 1 rfl) ?_
                    refine lv_iload_n hx hb d_M_into_37 rfl (lv_at hl 0 rfl) ?_
                    refine lv_icmp_ne (tgt := 43) hx hb d_M_into_38 (by decide) (fun c_98 => ?_) (fun c_98 => ?_)
                    · skip
                      refine lv_iload_n hx hb d_M_into_43 rfl (lv_at hl 0 rfl) ?_
                      refine lv_bipush (v := 9) hx hb d_M_into_44 (by decide) ?_
                      refine lv_icmp_ne (tgt := 62) hx hb d_M_into_46 (by decide) (fun c_99 => ?_) (fun c_99 => ?_)
                      · skip
                        refine lv_iload_n hx hb d_M_into_62 rfl (lv_at hl 0 rfl) ?_
                        refine lv_bipush (v := 10) hx hb d_M_into_63 (by decide) ?_
                        refine lv_icmp_ne (tgt := 80) hx hb d_M_into_65 (by decide) (fun c_100 => ?_) (fun c_100 => ?_)
                        · skip
                          refine lv_iload_n hx hb d_M_into_80 rfl (lv_at hl 0 rfl) ?_
                          refine lv_bipush (v := 12) hx hb d_M_into_81 (by decide) ?_
                          refine lv_icmp_ne (tgt := 104) hx hb d_M_into_83 (by decide) (fun c_101 => ?_) (fun c_101 => ?_)
                          · skip
                            refine lv_iload_n hx hb d_M_into_104 rfl (lv_at hl 0 rfl) ?_
                            refine lv_bipush (v := 13) hx hb d_M_into_105 (by decide) ?_
                            refine lv_icmp_ne (tgt := 128) hx hb d_M_into_107 (by decide) (fun c_102 => ?_) (fun c_102 => ?_)
                            · skip
                              refine lv_iload_n hx hb d_M_into_128 rfl (lv_at hl 0 rfl) ?_
                              refine lv_bipush (v := 16) hx hb d_M_into_129 (by decide) ?_
                              refine lv_icmp_ne (tgt := 146) hx hb d_M_into_131 (by decide) (fun c_103 => ?_) (fun c_103 => ?_)
                              · skip
                                refine lv_iload_n hx hb d_M_into_146 rfl (lv_at hl 0 rfl) ?_
                                refine lv_bipush (v := 21) hx hb d_M_into_147 (by decide) ?_
                                refine lv_icmp_ne (tgt := 164) hx hb d_M_into_149 (by decide) (fun c_104 => ?_) (fun c_104 => ?_)
                                · skip
                                  refine lv_iload_n hx hb d_M_into_164 rfl (lv_at hl 0 rfl) ?_
                                  refine lv_bipush (v := 22) hx hb d_M_into_165 (by decide) ?_
                                  refine lv_icmp_ne (tgt := 180) hx hb d_M_into_167 (by decide) (fun c_105 => ?_) (fun c_105 => ?_)
                                  · skip
                                    refine lv_iconst (v := 0) hx hb d_M_into_180 (by decide) ?_
                                    exact pm_ret hx hb hr hlk (by decide) (by rw [f_M_into, if_neg c_1, if_neg c_23, if_neg c_45, if_pos c_48, if_neg c_49, if_neg c_71, if_neg c_93, if_pos c_96, if_neg c_98, if_neg c_99, if_neg c_100, if_neg c_101, if_neg c_102, if_neg c_103, if_neg c_104, if_neg c_105]) d_M_into_181
                                  · skip
                                    refine lv_iload_n hx hb d_M_into_170 rfl (lv_at hl 1 rfl) ?_
                                    refine lv_bipush (v := 23) hx hb d_M_into_171 (by decide) ?_
                                    refine lv_icmp_ne (tgt := 180) hx hb d_M_into_173 (by decide) (fun c_106 => ?_) (fun c_106 => ?_)
                                    · skip
                                      refine lv_iconst (v := 0) hx hb d_M_into_180 (by decide) ?_
                                      exact pm_ret hx hb hr hlk (by decide) (by rw [f_M_into, if_neg c_1, if_neg c_23, if_neg c_45, if_pos c_48, if_neg c_49, if_neg c_71, if_neg c_93, if_pos c_96, if_neg c_98, if_neg c_99, if_neg c_100, if_neg c_101, if_neg c_102, if_neg c_103, if_neg c_104, if_pos c_105, if_neg c_106]) d_M_into_181
                                    · skip
                                      refine lv_iconst (v := 1) hx hb d_M_into_176 (by decide) ?_
                                      refine lv_goto (tgt := 181) hx hb d_M_into_177 (by decide) ?_
                                      exact pm_ret hx hb hr hlk (by decide) (by rw [f_M_into, if_neg c_1, if_neg c_23, if_neg c_45, if_pos c_48, if_neg c_49, if_neg c_71, if_neg c_93, if_pos c_96, if_neg c_98, if_neg c_99, if_neg c_100, if_neg c_101, if_neg c_102, if_neg c_103, if_neg c_104, if_pos c_105, if_pos c_106]) d_M_into_181
                                · skip
                                  refine lv_iload_n hx hb d_M_into_152 rfl (lv_at hl 1 rfl) ?_
                                  refine lv_bipush (v := 22) hx hb d_M_into_153 (by decide) ?_
                                  refine lv_icmp_eq (tgt := 176) hx hb d_M_into_155 (by decide) (fun c_107 => ?_) (fun c_107 => ?_)
                                  · skip
                                    refine lv_iconst (v := 1) hx hb d_M_into_176 (by decide) ?_
                                    refine lv_goto (tgt := 181) hx hb d_M_into_177 (by decide) ?_
                                    exact pm_ret hx hb hr hlk (by decide) (by rw [f_M_into, if_neg c_1, if_neg c_23, if_neg c_45, if_pos c_48, if_neg c_49, if_neg c_71, if_neg c_93, if_pos c_96, if_neg c_98, if_neg c_99, if_neg c_100, if_neg c_101, if_neg c_102, if_neg c_103, if_pos c_104, if_pos c_107]) d_M_into_181
                                  · skip
                                    refine lv_iload_n hx hb d_M_into_158 rfl (lv_at hl 1 rfl) ?_
                                    refine lv_bipush (v := 23) hx hb d_M_into_159 (by decide) ?_
                                    refine lv_icmp_eq (tgt := 176) hx hb d_M_into_161 (by decide) (fun c_108 => ?_) (fun c_108 => ?_)
                                    · skip
                                      refine lv_iconst (v := 1) hx hb d_M_into_176 (by decide) ?_
                                      refine lv_goto (tgt := 181) hx hb d_M_into_177 (by decide) ?_
                                      exact pm_ret hx hb hr hlk (by decide) (by rw [f_M_into, if_neg c_1, if_neg c_23, if_neg c_45, if_pos c_48, if_neg c_49, if_neg c_71, if_neg c_93, if_pos c_96, if_neg c_98, if_neg c_99, if_neg c_100, if_neg c_101, if_neg c_102, if_neg c_103, if_pos c_104, if_neg c_107, if_pos c_108]) d_M_into_181
                                    · skip
                                      refine lv_iload_n hx hb d_M_into_164 rfl (lv_at hl 0 rfl) ?_
                                      refine lv_bipush (v := 22) hx hb d_M_into_165 (by decide) ?_
                                      refine lv_icmp_ne (tgt := 180) hx hb d_M_into_167 (by decide) (fun c_109 => ?_) (fun c_109 => ?_)
                                      · skip
                                        refine lv_iconst (v := 0) hx hb d_M_into_180 (by decide) ?_
                                        exact pm_ret hx hb hr hlk (by decide) (by rw [f_M_into, if_neg c_1, if_neg c_23, if_neg c_45, if_pos c_48, if_neg c_49, if_neg c_71, if_neg c_93, if_pos c_96, if_neg c_98, if_neg c_99, if_neg c_100, if_neg c_101, if_neg c_102, if_neg c_103, if_pos c_104, if_neg c_107, if_neg c_108, if_neg c_109]) d_M_into_181
                                      · skip
                                        refine lv_iload_n hx hb d_M_into_170 rfl (lv_at hl 1 rfl) ?_
                                        refine lv_bipush (v := 23) hx hb d_M_into_171 (by decide) ?_
                                        refine lv_icmp_ne (tgt := 180) hx hb d_M_into_173 (by decide) (fun c_110 => ?_) (fun c_110 => ?_)
                                        · skip
                                          refine lv_iconst (v := 0) hx hb d_M_into_180 (by decide) ?_
                                          exact pm_ret hx hb hr hlk (by decide) (by rw [f_M_into, if_neg c_1, if_neg c_23, if_neg c_45, if_pos c_48, if_neg c_49, if_neg c_71, if_neg c_93, if_pos c_96, if_neg c_98, if_neg c_99, if_neg c_100, if_neg c_101, if_neg c_102, if_neg c_103, if_pos c_104, if_neg c_107, if_neg c_108, if_pos c_109]) d_M_into_181
                                        · exact absurd c_110 c_108
                              · skip
                                refine lv_iload_n hx hb d_M_into_134 rfl (lv_at hl 1 rfl) ?_
                                refine lv_bipush (v := 17) hx hb d_M_into_135 (by decide) ?_
                                refine lv_icmp_ne (tgt := 144) hx hb d_M_into_137 (by decide) (fun c_111 => ?_) (fun c_111 => ?_)
                                · skip
                                  refine lv_iconst (v := 0) hx hb d_M_into_144 (by decide) ?_
                                  exact pm_ret hx hb hr hlk (by decide) (by rw [f_M_into, if_neg c_1, if_neg c_23, if_neg c_45, if_pos c_48, if_neg c_49, if_neg c_71, if_neg c_93, if_pos c_96, if_neg c_98, if_neg c_99, if_neg c_100, if_neg c_101, if_neg c_102, if_pos c_103, if_neg c_111]) d_M_into_145
                                · skip
                                  refine lv_iconst (v := 1) hx hb d_M_into_140 (by decide) ?_
                                  refine lv_goto (tgt := 145) hx hb d_M_into_141 (by decide) ?_
                                  exact pm_ret hx hb hr hlk (by decide) (by rw [f_M_into, if_neg c_1, if_neg c_23, if_neg c_45, if_pos c_48, if_neg c_49, if_neg c_71, if_neg c_93, if_pos c_96, if_neg c_98, if_neg c_99, if_neg c_100, if_neg c_101, if_neg c_102, if_pos c_103, if_pos c_111]) d_M_into_145
                            · skip
                              refine lv_iload_n hx hb d_M_into_110 rfl (lv_at hl 1 rfl) ?_
                              refine lv_bipush (v := 14) hx hb d_M_into_111 (by decide) ?_
                              refine lv_icmp_eq (tgt := 122) hx hb d_M_into_113 (by decide) (fun c_112 => ?_) (fun c_112 => ?_)
                              · skip
                                refine lv_iconst (v := 1) hx hb d_M_into_122 (by decide) ?_
                                refine lv_goto (tgt := 127) hx hb d_M_into_123 (by decide) ?_
                                exact pm_ret hx hb hr hlk (by decide) (by rw [f_M_into, if_neg c_1, if_neg c_23, if_neg c_45, if_pos c_48, if_neg c_49, if_neg c_71, if_neg c_93, if_pos c_96, if_neg c_98, if_neg c_99, if_neg c_100, if_neg c_101, if_pos c_102, if_pos c_112]) d_M_into_127
                              · skip
                                refine lv_iload_n hx hb d_M_into_116 rfl (lv_at hl 1 rfl) ?_
                                refine lv_bipush (v := 15) hx hb d_M_into_117 (by decide) ?_
                                refine lv_icmp_ne (tgt := 126) hx hb d_M_into_119 (by decide) (fun c_113 => ?_) (fun c_113 => ?_)
                                · skip
                                  refine lv_iconst (v := 0) hx hb d_M_into_126 (by decide) ?_
                                  exact pm_ret hx hb hr hlk (by decide) (by rw [f_M_into, if_neg c_1, if_neg c_23, if_neg c_45, if_pos c_48, if_neg c_49, if_neg c_71, if_neg c_93, if_pos c_96, if_neg c_98, if_neg c_99, if_neg c_100, if_neg c_101, if_pos c_102, if_neg c_112, if_neg c_113]) d_M_into_127
                                · skip
                                  refine lv_iconst (v := 1) hx hb d_M_into_122 (by decide) ?_
                                  refine lv_goto (tgt := 127) hx hb d_M_into_123 (by decide) ?_
                                  exact pm_ret hx hb hr hlk (by decide) (by rw [f_M_into, if_neg c_1, if_neg c_23, if_neg c_45, if_pos c_48, if_neg c_49, if_neg c_71, if_neg c_93, if_pos c_96, if_neg c_98, if_neg c_99, if_neg c_100, if_neg c_101, if_pos c_102, if_neg c_112, if_pos c_113]) d_M_into_127
                          · skip
                            refine lv_iload_n hx hb d_M_into_86 rfl (lv_at hl 1 rfl) ?_
                            refine lv_bipush (v := 15) hx hb d_M_into_87 (by decide) ?_
                            refine lv_icmp_eq (tgt := 98) hx hb d_M_into_89 (by decide) (fun c_114 => ?_) (fun c_114 => ?_)
                            · skip
                              refine lv_iconst (v := 1) hx hb d_M_into_98 (by decide) ?_
                              refine lv_goto (tgt := 103) hx hb d_M_into_99 (by decide) ?_
                              exact pm_ret hx hb hr hlk (by decide) (by rw [f_M_into, if_neg c_1, if_neg c_23, if_neg c_45, if_pos c_48, if_neg c_49, if_neg c_71, if_neg c_93, if_pos c_96, if_neg c_98, if_neg c_99, if_neg c_100, if_pos c_101, if_pos c_114]) d_M_into_103
                            · skip
                              refine lv_iload_n hx hb d_M_into_92 rfl (lv_at hl 1 rfl) ?_
                              refine lv_bipush (v := 23) hx hb d_M_into_93 (by decide) ?_
                              refine lv_icmp_ne (tgt := 102) hx hb d_M_into_95 (by decide) (fun c_115 => ?_) (fun c_115 => ?_)
                              · skip
                                refine lv_iconst (v := 0) hx hb d_M_into_102 (by decide) ?_
                                exact pm_ret hx hb hr hlk (by decide) (by rw [f_M_into, if_neg c_1, if_neg c_23, if_neg c_45, if_pos c_48, if_neg c_49, if_neg c_71, if_neg c_93, if_pos c_96, if_neg c_98, if_neg c_99, if_neg c_100, if_pos c_101, if_neg c_114, if_neg c_115]) d_M_into_103
                              · skip
                                refine lv_iconst (v := 1) hx hb d_M_into_98 (by decide) ?_
                                refine lv_goto (tgt := 103) hx hb d_M_into_99 (by decide) ?_
                                exact pm_ret hx hb hr hlk (by decide) (by rw [f_M_into, if_neg c_1, if_neg c_23, if_neg c_45, if_pos c_48, if_neg c_49, if_neg c_71, if_neg c_93, if_pos c_96, if_neg c_98, if_neg c_99, if_neg c_100, if_pos c_101, if_neg c_114, if_pos c_115]) d_M_into_103
                        · skip
                          refine lv_iload_n hx hb d_M_into_68 rfl (lv_at hl 1 rfl) ?_
                          refine lv_bipush (v := 24) hx hb d_M_into_69 (by decide) ?_
                          refine lv_icmp_ne (tgt := 78) hx hb d_M_into_71 (by decide) (fun c_116 => ?_) (fun c_116 => ?_)
                          · skip
                            refine lv_iconst (v := 0) hx hb d_M_into_78 (by decide) ?_
                            exact pm_ret hx hb hr hlk (by decide) (by rw [f_M_into, if_neg c_1, if_neg c_23, if_neg c_45, if_pos c_48, if_neg c_49, if_neg c_71, if_neg c_93, if_pos c_96, if_neg c_98, if_neg c_99, if_pos c_100, if_neg c_116]) d_M_into_79
                          · skip
                            refine lv_iconst (v := 1) hx hb d_M_into_74 (by decide) ?_
                            refine lv_goto (tgt := 79) hx hb d_M_into_75 (by decide) ?_
                            exact pm_ret hx hb hr hlk (by decide) (by rw [f_M_into, if_neg c_1, if_neg c_23, if_neg c_45, if_pos c_48, if_neg c_49, if_neg c_71, if_neg c_93, if_pos c_96, if_neg c_98, if_neg c_99, if_pos c_100, if_pos c_116]) d_M_into_79
                      · skip
                        refine lv_iload_n hx hb d_M_into_49 rfl (lv_at hl 1 rfl) ?_
                        refine pm_callE hF hN (c_M_primitive l ((u + (-40)) + (-40))) k_M_primitive j_M_102 ⟨Nat.le_of_ble_eq_true rfl, Nat.le_of_ble_eq_true rfl⟩ rfl hl.1 (Nat.le_of_ble_eq_true rfl) d_M_into_50 ⟨Nat.le_refl _, Nat.le_refl _⟩ ?_
                        refine lv_if_ne (tgt := 60) hx hb d_M_into_53 (by decide) (fun c_118 => ?_) (fun c_118 => ?_)
                        · exact absurd c_96 c_118
                        · skip
                          refine lv_iconst (v := 1) hx hb d_M_into_56 (by decide) ?_
                          refine lv_goto (tgt := 61) hx hb d_M_into_57 (by decide) ?_
                          exact pm_ret hx hb hr hlk (by decide) (by rw [f_M_into, if_neg c_1, if_neg c_23, if_neg c_45, if_pos c_48, if_neg c_49, if_neg c_71, if_neg c_93, if_pos c_96, if_neg c_98, if_pos c_99]) d_M_into_61
                    · skip
                      refine lv_iconst (v := 1) hx hb d_M_into_41 (by decide) ?_
                      exact pm_ret hx hb hr hlk (by decide) (by rw [f_M_into, if_neg c_1, if_neg c_23, if_neg c_45, if_pos c_48, if_neg c_49, if_neg c_71, if_neg c_93, if_pos c_96, if_pos c_98]) d_M_into_42
                  · exact absurd (m_lt3 hu c_1 c_49) c_97
                · skip
                  refine lv_iconst (v := 0) hx hb d_M_into_34 (by decide) ?_
                  exact pm_ret hx hb hr hlk (by decide) (by rw [f_M_into, if_neg c_1, if_neg c_23, if_neg c_45, if_pos c_48, if_neg c_49, if_neg c_71, if_neg c_93, if_neg c_96]) d_M_into_35
        · skip
          refine lv_iconst (v := 0) hx hb d_M_into_34 (by decide) ?_
          exact pm_ret hx hb hr hlk (by decide) (by rw [f_M_into, if_neg c_1, if_neg c_23, if_neg c_45, if_neg c_48]) d_M_into_35
def f_M_goesInto (u : Int32) (t : Int32) : Int32 := (if (f_M_isType u) = 0 then 0 else (if (f_M_isType t) = 0 then 0 else (if (f_M_into u t) = 0 then 0 else 1)))
set_option maxRecDepth 100000 in
theorem z_M_goesInto (u : Int32) (t : Int32) : f_M_goesInto u t = 0 ∨ f_M_goesInto u t = 1 := by
  unfold f_M_goesInto
  repeat' first | with_reducible refine z_ite ?_ ?_ | with_reducible exact z_M_into _ _ | with_reducible exact z_M_isType _ | with_reducible exact Or.inl rfl | with_reducible exact Or.inr rfl
set_option maxRecDepth 100000 in
theorem k_M_goesInto : ck y_M_goesInto b_M_goesInto 3 (some .boolean) 2 (.instanceMethod y_M_goesInto) := ⟨tk_of (List.mem_of_getElem? (i := 840) rfl) rfl, tk_of (List.mem_of_getElem? (i := 838) (by decide +kernel)) rfl, tk_of (List.mem_of_getElem? (i := 43) (by decide +kernel)) rfl, by decide +kernel⟩
theorem j_M_186 : Cond.methodLink R_M 186 y_M_into ∈ tk := tk_of (List.mem_of_getElem? (i := 841) (by decide +kernel)) rfl
set_option maxHeartbeats 4000000 in
set_option maxRecDepth 100000 in
theorem c_M_goesInto (l : Launch) (h0 : Nat) (u : Int32) (t : Int32) : pmI l y_M_goesInto b_M_goesInto 3 .boolean 3 65 [.ref h0, .int u, .int t] (fun r => r = f_M_goesInto u t) := by
  refine pm_of (by decide) (Nat.le_of_ble_eq_true rfl) ?_
  intro p e s m below meth c ls hx hb hF hr hlk hN hl
  have hl : lv_has ls 3 [(0, .ref h0), (1, .int u), (2, .int t)] := hl
  refine lv_iload_n hx hb d_M_goesInto_0 rfl (lv_at hl 1 rfl) ?_
  refine pm_callE hF hN (c_M_isType l u) k_M_isType j_M_167 ⟨Nat.le_of_ble_eq_true rfl, Nat.le_of_ble_eq_true rfl⟩ rfl hl.1 (Nat.le_of_ble_eq_true rfl) d_M_goesInto_1 ⟨Nat.le_refl _, Nat.le_refl _⟩ ?_
  refine lv_if_eq (tgt := 26) hx hb d_M_goesInto_4 (by decide) (fun c_2 => ?_) (fun c_2 => ?_)
  · skip
    refine lv_iconst (v := 0) hx hb d_M_goesInto_26 (by decide) ?_
    exact pm_ret hx hb hr hlk (by decide) (by rw [f_M_goesInto, if_pos c_2]) d_M_goesInto_27
  · skip
    refine lv_iload_n hx hb d_M_goesInto_7 rfl (lv_at hl 2 rfl) ?_
    refine pm_callE hF hN (c_M_isType l t) k_M_isType j_M_167 ⟨Nat.le_of_ble_eq_true rfl, Nat.le_of_ble_eq_true rfl⟩ rfl hl.1 (Nat.le_of_ble_eq_true rfl) d_M_goesInto_8 ⟨Nat.le_refl _, Nat.le_refl _⟩ ?_
    refine lv_if_eq (tgt := 26) hx hb d_M_goesInto_11 (by decide) (fun c_4 => ?_) (fun c_4 => ?_)
    · skip
      refine lv_iconst (v := 0) hx hb d_M_goesInto_26 (by decide) ?_
      exact pm_ret hx hb hr hlk (by decide) (by rw [f_M_goesInto, if_neg c_2, if_pos c_4]) d_M_goesInto_27
    · skip
      refine lv_iload_n hx hb d_M_goesInto_14 rfl (lv_at hl 1 rfl) ?_
      refine lv_iload_n hx hb d_M_goesInto_15 rfl (lv_at hl 2 rfl) ?_
      refine pm_callE hF hN (c_M_into l u t (m_isT c_2)) k_M_into j_M_186 ⟨Nat.le_of_ble_eq_true rfl, Nat.le_of_ble_eq_true rfl⟩ rfl hl.1 (Nat.le_of_ble_eq_true rfl) d_M_goesInto_16 ⟨Nat.le_refl _, Nat.le_refl _⟩ ?_
      refine lv_if_eq (tgt := 26) hx hb d_M_goesInto_19 (by decide) (fun c_6 => ?_) (fun c_6 => ?_)
      · skip
        refine lv_iconst (v := 0) hx hb d_M_goesInto_26 (by decide) ?_
        exact pm_ret hx hb hr hlk (by decide) (by rw [f_M_goesInto, if_neg c_2, if_neg c_4, if_pos c_6]) d_M_goesInto_27
      · skip
        refine lv_iconst (v := 1) hx hb d_M_goesInto_22 (by decide) ?_
        refine lv_goto (tgt := 27) hx hb d_M_goesInto_23 (by decide) ?_
        exact pm_ret hx hb hr hlk (by decide) (by rw [f_M_goesInto, if_neg c_2, if_neg c_4, if_neg c_6]) d_M_goesInto_27
def f_M_asSubclass (u : Int32) (t : Int32) : Int32 := (if (f_M_isType u) = 0 then (-1) else (if (f_M_isType t) = 0 then (-1) else (if (f_M_into u t) = 0 then (-5) else u)))
set_option maxRecDepth 100000 in
theorem k_M_asSubclass : ck y_M_asSubclass b_M_asSubclass 3 (some .int) 2 (.instanceMethod y_M_asSubclass) := ⟨tk_of (List.mem_of_getElem? (i := 847) rfl) rfl, tk_of (List.mem_of_getElem? (i := 845) (by decide +kernel)) rfl, tk_of (List.mem_of_getElem? (i := 43) (by decide +kernel)) rfl, by decide +kernel⟩
set_option maxHeartbeats 4000000 in
set_option maxRecDepth 100000 in
theorem c_M_asSubclass (l : Launch) (h0 : Nat) (u : Int32) (t : Int32) : pmI l y_M_asSubclass b_M_asSubclass 3 .int 3 65 [.ref h0, .int u, .int t] (fun r => r = f_M_asSubclass u t) := by
  refine pm_of (by decide) (Nat.le_of_ble_eq_true rfl) ?_
  intro p e s m below meth c ls hx hb hF hr hlk hN hl
  have hl : lv_has ls 3 [(0, .ref h0), (1, .int u), (2, .int t)] := hl
  refine lv_iload_n hx hb d_M_asSubclass_0 rfl (lv_at hl 1 rfl) ?_
  refine pm_callE hF hN (c_M_isType l u) k_M_isType j_M_167 ⟨Nat.le_of_ble_eq_true rfl, Nat.le_of_ble_eq_true rfl⟩ rfl hl.1 (Nat.le_of_ble_eq_true rfl) d_M_asSubclass_1 ⟨Nat.le_refl _, Nat.le_refl _⟩ ?_
  refine lv_if_eq (tgt := 14) hx hb d_M_asSubclass_4 (by decide) (fun c_2 => ?_) (fun c_2 => ?_)
  · skip
    refine lv_iconst (v := (-1)) hx hb d_M_asSubclass_14 (by decide) ?_
    exact pm_ret hx hb hr hlk (nar_i _) (by rw [f_M_asSubclass, if_pos c_2]) d_M_asSubclass_15
  · skip
    refine lv_iload_n hx hb d_M_asSubclass_7 rfl (lv_at hl 2 rfl) ?_
    refine pm_callE hF hN (c_M_isType l t) k_M_isType j_M_167 ⟨Nat.le_of_ble_eq_true rfl, Nat.le_of_ble_eq_true rfl⟩ rfl hl.1 (Nat.le_of_ble_eq_true rfl) d_M_asSubclass_8 ⟨Nat.le_refl _, Nat.le_refl _⟩ ?_
    refine lv_if_ne (tgt := 16) hx hb d_M_asSubclass_11 (by decide) (fun c_4 => ?_) (fun c_4 => ?_)
    · skip
      refine lv_iload_n hx hb d_M_asSubclass_16 rfl (lv_at hl 1 rfl) ?_
      refine lv_iload_n hx hb d_M_asSubclass_17 rfl (lv_at hl 2 rfl) ?_
      refine pm_callE hF hN (c_M_into l u t (m_isT c_2)) k_M_into j_M_186 ⟨Nat.le_of_ble_eq_true rfl, Nat.le_of_ble_eq_true rfl⟩ rfl hl.1 (Nat.le_of_ble_eq_true rfl) d_M_asSubclass_18 ⟨Nat.le_refl _, Nat.le_refl _⟩ ?_
      refine lv_if_eq (tgt := 28) hx hb d_M_asSubclass_21 (by decide) (fun c_6 => ?_) (fun c_6 => ?_)
      · skip
        refine lv_bipush (v := (-5)) hx hb d_M_asSubclass_28 (by decide) ?_
        exact pm_ret hx hb hr hlk (nar_i _) (by rw [f_M_asSubclass, if_neg c_2, if_neg c_4, if_pos c_6]) d_M_asSubclass_30
      · skip
        refine lv_iload_n hx hb d_M_asSubclass_24 rfl (lv_at hl 1 rfl) ?_
        refine lv_goto (tgt := 30) hx hb d_M_asSubclass_25 (by decide) ?_
        exact pm_ret hx hb hr hlk (nar_i _) (by rw [f_M_asSubclass, if_neg c_2, if_neg c_4, if_neg c_6]) d_M_asSubclass_30
    · skip
      refine lv_iconst (v := (-1)) hx hb d_M_asSubclass_14 (by decide) ?_
      exact pm_ret hx hb hr hlk (nar_i _) (by rw [f_M_asSubclass, if_neg c_2, if_pos c_4]) d_M_asSubclass_15
