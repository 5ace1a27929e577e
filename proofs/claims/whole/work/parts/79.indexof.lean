theorem j_en : ∀ c : Nat, c < 128 → ¬ f_L1_canEncode_I (nI c) = 0 := by decide +kernel
def f_ix (ch : Nat) : Int32 := (if (li_c 40 (0 : Int32).toNatClampNeg) = (nI ch) then 0 else (if (li_c 40 (1 : Int32).toNatClampNeg) = (nI ch) then 1 else (if (li_c 40 (2 : Int32).toNatClampNeg) = (nI ch) then 2 else (if (li_c 40 (3 : Int32).toNatClampNeg) = (nI ch) then 3 else (if (li_c 40 (4 : Int32).toNatClampNeg) = (nI ch) then 4 else (if (li_c 40 (5 : Int32).toNatClampNeg) = (nI ch) then 5 else (if (li_c 40 (6 : Int32).toNatClampNeg) = (nI ch) then 6 else (if (li_c 40 (7 : Int32).toNatClampNeg) = (nI ch) then 7 else (if (li_c 40 (8 : Int32).toNatClampNeg) = (nI ch) then 8 else (-1))))))))))
set_option maxRecDepth 100000 in
theorem k_L1_indexOfChar : ck y_L1_indexOfChar b_L1_indexOfChar 6 (some .int) 4 (.static y_L1_indexOfChar) := ⟨tk_of (List.mem_of_getElem? (i := 599) rfl) rfl, tk_of (List.mem_of_getElem? (i := 598) (by decide +kernel)) rfl, tk_of (List.mem_of_getElem? (i := 49) (by decide +kernel)) rfl, by decide +kernel⟩
set_option maxHeartbeats 4000000 in
set_option maxRecDepth 100000 in
theorem c_L1_indexOfChar (g : gT) (l : Launch) (sz : Nat) (ch : Nat) (hc : ch < 128) : Mg g l y_L1_indexOfChar b_L1_indexOfChar 6 (some .int) 0 0 0 0 [.ref (gV g 40), .int (nI ch), .int 0, .int 9] [] sz (qI g (fun r w1 => r = f_ix ch ∧ w1 = [])) := by
  refine mg_of (by decide) (Nat.le_of_ble_eq_true rfl) ?_
  intro p e s m below meth c ls A hx hb hF hr hlk hnm hA G hP hD hS hl
  have hK := G.2.1
  have hN := G.1
  have hl : lv_has ls 6 [(0, .ref (gV g 40)), (1, .int (nI ch)), (2, .int 0), (3, .int 9)] := hl
  refine lv_iload_n hx hb d_L1_indexOfChar_0 rfl (lv_at hl 1 rfl) ?_
  refine lv_i2b hx hb d_L1_indexOfChar_1 rfl ?_
  refine tp_i (j_b7 ch hc).1 ?_
  refine lv_istore (lv' := [(4, .int (nI ch)), (0, .ref (gV g 40)), (1, .int (nI ch)), (2, .int 0), (3, .int 9)]) hx hb d_L1_indexOfChar_2 hl (by decide) rfl (fun ls hl => ?_)
  refine lv_iload_n hx hb d_L1_indexOfChar_4 rfl (lv_at hl 3 rfl) ?_
  refine lv_istore (lv' := [(5, .int 0), (4, .int (nI ch)), (0, .ref (gV g 40)), (1, .int (nI ch)), (2, .int 0), (3, .int 9)]) hx hb d_L1_indexOfChar_5 hl (by decide) rfl (fun ls hl => ?_)
  refine lv_iload hx hb d_L1_indexOfChar_7 (lv_at hl 0 rfl) ?_
  refine lv_iload_n hx hb d_L1_indexOfChar_9 rfl (lv_at hl 5 rfl) ?_
  refine lv_icmp_ge (tgt := 31) hx hb d_L1_indexOfChar_10 (by decide) (fun c_1 => ?_) (fun c_1 => ?_)
  · exact absurd c_1 (by decide)
  · skip
    refine lv_aload_n hx hb d_L1_indexOfChar_13 rfl (lv_at hl 2 rfl) ?_
    refine lv_iload hx hb d_L1_indexOfChar_14 (lv_at hl 0 rfl) ?_
    refine va_tb hx hb (G.2.2.2.1 40 (by decide)).2.2.2 hS (vp_in_nI (n := 0) (N := (li_x 40).length) (by decide) (by decide)) (v := .int (li_c 40 (0 : Int32).toNatClampNeg)) rfl d_L1_indexOfChar_16 ?_
    refine lv_iload hx hb d_L1_indexOfChar_17 (lv_at hl 1 rfl) ?_
    refine lv_icmp_ne (tgt := 25) hx hb d_L1_indexOfChar_19 (by decide) (fun c_2 => ?_) (fun c_2 => ?_)
    · skip
      refine lv_iinc (v := 1) (lv' := [(5, .int 1), (4, .int (nI ch)), (0, .ref (gV g 40)), (1, .int (nI ch)), (2, .int 0), (3, .int 9)]) hx hb d_L1_indexOfChar_25 hl (k := 0) rfl (by first | rfl | decide) (by decide) rfl (fun ls hl => ?_)
      refine lv_goto (tgt := 7) hx hb d_L1_indexOfChar_28 (by decide) ?_
      refine lv_iload hx hb d_L1_indexOfChar_7 (lv_at hl 0 rfl) ?_
      refine lv_iload_n hx hb d_L1_indexOfChar_9 rfl (lv_at hl 5 rfl) ?_
      refine lv_icmp_ge (tgt := 31) hx hb d_L1_indexOfChar_10 (by decide) (fun c_3 => ?_) (fun c_3 => ?_)
      · exact absurd c_3 (by decide)
      · skip
        refine lv_aload_n hx hb d_L1_indexOfChar_13 rfl (lv_at hl 2 rfl) ?_
        refine lv_iload hx hb d_L1_indexOfChar_14 (lv_at hl 0 rfl) ?_
        refine va_tb hx hb (G.2.2.2.1 40 (by decide)).2.2.2 hS (vp_in_nI (n := 1) (N := (li_x 40).length) (by decide) (by decide)) (v := .int (li_c 40 (1 : Int32).toNatClampNeg)) rfl d_L1_indexOfChar_16 ?_
        refine lv_iload hx hb d_L1_indexOfChar_17 (lv_at hl 1 rfl) ?_
        refine lv_icmp_ne (tgt := 25) hx hb d_L1_indexOfChar_19 (by decide) (fun c_4 => ?_) (fun c_4 => ?_)
        · skip
          refine lv_iinc (v := 2) (lv' := [(5, .int 2), (4, .int (nI ch)), (0, .ref (gV g 40)), (1, .int (nI ch)), (2, .int 0), (3, .int 9)]) hx hb d_L1_indexOfChar_25 hl (k := 0) rfl (by first | rfl | decide) (by decide) rfl (fun ls hl => ?_)
          refine lv_goto (tgt := 7) hx hb d_L1_indexOfChar_28 (by decide) ?_
          refine lv_iload hx hb d_L1_indexOfChar_7 (lv_at hl 0 rfl) ?_
          refine lv_iload_n hx hb d_L1_indexOfChar_9 rfl (lv_at hl 5 rfl) ?_
          refine lv_icmp_ge (tgt := 31) hx hb d_L1_indexOfChar_10 (by decide) (fun c_5 => ?_) (fun c_5 => ?_)
          · exact absurd c_5 (by decide)
          · skip
            refine lv_aload_n hx hb d_L1_indexOfChar_13 rfl (lv_at hl 2 rfl) ?_
            refine lv_iload hx hb d_L1_indexOfChar_14 (lv_at hl 0 rfl) ?_
            refine va_tb hx hb (G.2.2.2.1 40 (by decide)).2.2.2 hS (vp_in_nI (n := 2) (N := (li_x 40).length) (by decide) (by decide)) (v := .int (li_c 40 (2 : Int32).toNatClampNeg)) rfl d_L1_indexOfChar_16 ?_
            refine lv_iload hx hb d_L1_indexOfChar_17 (lv_at hl 1 rfl) ?_
            refine lv_icmp_ne (tgt := 25) hx hb d_L1_indexOfChar_19 (by decide) (fun c_6 => ?_) (fun c_6 => ?_)
            · skip
              refine lv_iinc (v := 3) (lv' := [(5, .int 3), (4, .int (nI ch)), (0, .ref (gV g 40)), (1, .int (nI ch)), (2, .int 0), (3, .int 9)]) hx hb d_L1_indexOfChar_25 hl (k := 0) rfl (by first | rfl | decide) (by decide) rfl (fun ls hl => ?_)
              refine lv_goto (tgt := 7) hx hb d_L1_indexOfChar_28 (by decide) ?_
              refine lv_iload hx hb d_L1_indexOfChar_7 (lv_at hl 0 rfl) ?_
              refine lv_iload_n hx hb d_L1_indexOfChar_9 rfl (lv_at hl 5 rfl) ?_
              refine lv_icmp_ge (tgt := 31) hx hb d_L1_indexOfChar_10 (by decide) (fun c_7 => ?_) (fun c_7 => ?_)
              · exact absurd c_7 (by decide)
              · skip
                refine lv_aload_n hx hb d_L1_indexOfChar_13 rfl (lv_at hl 2 rfl) ?_
                refine lv_iload hx hb d_L1_indexOfChar_14 (lv_at hl 0 rfl) ?_
                refine va_tb hx hb (G.2.2.2.1 40 (by decide)).2.2.2 hS (vp_in_nI (n := 3) (N := (li_x 40).length) (by decide) (by decide)) (v := .int (li_c 40 (3 : Int32).toNatClampNeg)) rfl d_L1_indexOfChar_16 ?_
                refine lv_iload hx hb d_L1_indexOfChar_17 (lv_at hl 1 rfl) ?_
                refine lv_icmp_ne (tgt := 25) hx hb d_L1_indexOfChar_19 (by decide) (fun c_8 => ?_) (fun c_8 => ?_)
                · skip
                  refine lv_iinc (v := 4) (lv' := [(5, .int 4), (4, .int (nI ch)), (0, .ref (gV g 40)), (1, .int (nI ch)), (2, .int 0), (3, .int 9)]) hx hb d_L1_indexOfChar_25 hl (k := 0) rfl (by first | rfl | decide) (by decide) rfl (fun ls hl => ?_)
                  refine lv_goto (tgt := 7) hx hb d_L1_indexOfChar_28 (by decide) ?_
                  refine lv_iload hx hb d_L1_indexOfChar_7 (lv_at hl 0 rfl) ?_
                  refine lv_iload_n hx hb d_L1_indexOfChar_9 rfl (lv_at hl 5 rfl) ?_
                  refine lv_icmp_ge (tgt := 31) hx hb d_L1_indexOfChar_10 (by decide) (fun c_9 => ?_) (fun c_9 => ?_)
                  · exact absurd c_9 (by decide)
                  · skip
                    refine lv_aload_n hx hb d_L1_indexOfChar_13 rfl (lv_at hl 2 rfl) ?_
                    refine lv_iload hx hb d_L1_indexOfChar_14 (lv_at hl 0 rfl) ?_
                    refine va_tb hx hb (G.2.2.2.1 40 (by decide)).2.2.2 hS (vp_in_nI (n := 4) (N := (li_x 40).length) (by decide) (by decide)) (v := .int (li_c 40 (4 : Int32).toNatClampNeg)) rfl d_L1_indexOfChar_16 ?_
                    refine lv_iload hx hb d_L1_indexOfChar_17 (lv_at hl 1 rfl) ?_
                    refine lv_icmp_ne (tgt := 25) hx hb d_L1_indexOfChar_19 (by decide) (fun c_10 => ?_) (fun c_10 => ?_)
                    · skip
                      refine lv_iinc (v := 5) (lv' := [(5, .int 5), (4, .int (nI ch)), (0, .ref (gV g 40)), (1, .int (nI ch)), (2, .int 0), (3, .int 9)]) hx hb d_L1_indexOfChar_25 hl (k := 0) rfl (by first | rfl | decide) (by decide) rfl (fun ls hl => ?_)
                      refine lv_goto (tgt := 7) hx hb d_L1_indexOfChar_28 (by decide) ?_
                      refine lv_iload hx hb d_L1_indexOfChar_7 (lv_at hl 0 rfl) ?_
                      refine lv_iload_n hx hb d_L1_indexOfChar_9 rfl (lv_at hl 5 rfl) ?_
                      refine lv_icmp_ge (tgt := 31) hx hb d_L1_indexOfChar_10 (by decide) (fun c_11 => ?_) (fun c_11 => ?_)
                      · exact absurd c_11 (by decide)
                      · skip
                        refine lv_aload_n hx hb d_L1_indexOfChar_13 rfl (lv_at hl 2 rfl) ?_
                        refine lv_iload hx hb d_L1_indexOfChar_14 (lv_at hl 0 rfl) ?_
                        refine va_tb hx hb (G.2.2.2.1 40 (by decide)).2.2.2 hS (vp_in_nI (n := 5) (N := (li_x 40).length) (by decide) (by decide)) (v := .int (li_c 40 (5 : Int32).toNatClampNeg)) rfl d_L1_indexOfChar_16 ?_
                        refine lv_iload hx hb d_L1_indexOfChar_17 (lv_at hl 1 rfl) ?_
                        refine lv_icmp_ne (tgt := 25) hx hb d_L1_indexOfChar_19 (by decide) (fun c_12 => ?_) (fun c_12 => ?_)
                        · skip
                          refine lv_iinc (v := 6) (lv' := [(5, .int 6), (4, .int (nI ch)), (0, .ref (gV g 40)), (1, .int (nI ch)), (2, .int 0), (3, .int 9)]) hx hb d_L1_indexOfChar_25 hl (k := 0) rfl (by first | rfl | decide) (by decide) rfl (fun ls hl => ?_)
                          refine lv_goto (tgt := 7) hx hb d_L1_indexOfChar_28 (by decide) ?_
                          refine lv_iload hx hb d_L1_indexOfChar_7 (lv_at hl 0 rfl) ?_
                          refine lv_iload_n hx hb d_L1_indexOfChar_9 rfl (lv_at hl 5 rfl) ?_
                          refine lv_icmp_ge (tgt := 31) hx hb d_L1_indexOfChar_10 (by decide) (fun c_13 => ?_) (fun c_13 => ?_)
                          · exact absurd c_13 (by decide)
                          · skip
                            refine lv_aload_n hx hb d_L1_indexOfChar_13 rfl (lv_at hl 2 rfl) ?_
                            refine lv_iload hx hb d_L1_indexOfChar_14 (lv_at hl 0 rfl) ?_
                            refine va_tb hx hb (G.2.2.2.1 40 (by decide)).2.2.2 hS (vp_in_nI (n := 6) (N := (li_x 40).length) (by decide) (by decide)) (v := .int (li_c 40 (6 : Int32).toNatClampNeg)) rfl d_L1_indexOfChar_16 ?_
                            refine lv_iload hx hb d_L1_indexOfChar_17 (lv_at hl 1 rfl) ?_
                            refine lv_icmp_ne (tgt := 25) hx hb d_L1_indexOfChar_19 (by decide) (fun c_14 => ?_) (fun c_14 => ?_)
                            · skip
                              refine lv_iinc (v := 7) (lv' := [(5, .int 7), (4, .int (nI ch)), (0, .ref (gV g 40)), (1, .int (nI ch)), (2, .int 0), (3, .int 9)]) hx hb d_L1_indexOfChar_25 hl (k := 0) rfl (by first | rfl | decide) (by decide) rfl (fun ls hl => ?_)
                              refine lv_goto (tgt := 7) hx hb d_L1_indexOfChar_28 (by decide) ?_
                              refine lv_iload hx hb d_L1_indexOfChar_7 (lv_at hl 0 rfl) ?_
                              refine lv_iload_n hx hb d_L1_indexOfChar_9 rfl (lv_at hl 5 rfl) ?_
                              refine lv_icmp_ge (tgt := 31) hx hb d_L1_indexOfChar_10 (by decide) (fun c_15 => ?_) (fun c_15 => ?_)
                              · exact absurd c_15 (by decide)
                              · skip
                                refine lv_aload_n hx hb d_L1_indexOfChar_13 rfl (lv_at hl 2 rfl) ?_
                                refine lv_iload hx hb d_L1_indexOfChar_14 (lv_at hl 0 rfl) ?_
                                refine va_tb hx hb (G.2.2.2.1 40 (by decide)).2.2.2 hS (vp_in_nI (n := 7) (N := (li_x 40).length) (by decide) (by decide)) (v := .int (li_c 40 (7 : Int32).toNatClampNeg)) rfl d_L1_indexOfChar_16 ?_
                                refine lv_iload hx hb d_L1_indexOfChar_17 (lv_at hl 1 rfl) ?_
                                refine lv_icmp_ne (tgt := 25) hx hb d_L1_indexOfChar_19 (by decide) (fun c_16 => ?_) (fun c_16 => ?_)
                                · skip
                                  refine lv_iinc (v := 8) (lv' := [(5, .int 8), (4, .int (nI ch)), (0, .ref (gV g 40)), (1, .int (nI ch)), (2, .int 0), (3, .int 9)]) hx hb d_L1_indexOfChar_25 hl (k := 0) rfl (by first | rfl | decide) (by decide) rfl (fun ls hl => ?_)
                                  refine lv_goto (tgt := 7) hx hb d_L1_indexOfChar_28 (by decide) ?_
                                  refine lv_iload hx hb d_L1_indexOfChar_7 (lv_at hl 0 rfl) ?_
                                  refine lv_iload_n hx hb d_L1_indexOfChar_9 rfl (lv_at hl 5 rfl) ?_
                                  refine lv_icmp_ge (tgt := 31) hx hb d_L1_indexOfChar_10 (by decide) (fun c_17 => ?_) (fun c_17 => ?_)
                                  · exact absurd c_17 (by decide)
                                  · skip
                                    refine lv_aload_n hx hb d_L1_indexOfChar_13 rfl (lv_at hl 2 rfl) ?_
                                    refine lv_iload hx hb d_L1_indexOfChar_14 (lv_at hl 0 rfl) ?_
                                    refine va_tb hx hb (G.2.2.2.1 40 (by decide)).2.2.2 hS (vp_in_nI (n := 8) (N := (li_x 40).length) (by decide) (by decide)) (v := .int (li_c 40 (8 : Int32).toNatClampNeg)) rfl d_L1_indexOfChar_16 ?_
                                    refine lv_iload hx hb d_L1_indexOfChar_17 (lv_at hl 1 rfl) ?_
                                    refine lv_icmp_ne (tgt := 25) hx hb d_L1_indexOfChar_19 (by decide) (fun c_18 => ?_) (fun c_18 => ?_)
                                    · skip
                                      refine lv_iinc (v := 9) (lv' := [(5, .int 9), (4, .int (nI ch)), (0, .ref (gV g 40)), (1, .int (nI ch)), (2, .int 0), (3, .int 9)]) hx hb d_L1_indexOfChar_25 hl (k := 0) rfl (by first | rfl | decide) (by decide) rfl (fun ls hl => ?_)
                                      refine lv_goto (tgt := 7) hx hb d_L1_indexOfChar_28 (by decide) ?_
                                      refine lv_iload hx hb d_L1_indexOfChar_7 (lv_at hl 0 rfl) ?_
                                      refine lv_iload_n hx hb d_L1_indexOfChar_9 rfl (lv_at hl 5 rfl) ?_
                                      refine lv_icmp_ge (tgt := 31) hx hb d_L1_indexOfChar_10 (by decide) (fun c_19 => ?_) (fun c_19 => ?_)
                                      · skip
                                        refine lv_iconst (v := (-1)) hx hb d_L1_indexOfChar_31 (by decide) ?_
                                        exact ret_i hx hb hr hlk hP hD hS (nar_i _) ⟨by rw [f_ix, if_neg c_2, if_neg c_4, if_neg c_6, if_neg c_8, if_neg c_10, if_neg c_12, if_neg c_14, if_neg c_16, if_neg c_18], rfl⟩ (by first | exact Nat.le_of_ble_eq_true rfl | (dsimp only; omega) | omega) (by first | exact Nat.le_of_ble_eq_true rfl | (dsimp only; omega) | omega) d_L1_indexOfChar_32
                                      · exact absurd c_19 (by decide)
                                    · skip
                                      refine lv_iload hx hb d_L1_indexOfChar_22 (lv_at hl 0 rfl) ?_
                                      exact ret_i hx hb hr hlk hP hD hS (nar_i _) ⟨by rw [f_ix, if_neg c_2, if_neg c_4, if_neg c_6, if_neg c_8, if_neg c_10, if_neg c_12, if_neg c_14, if_neg c_16, if_pos c_18], rfl⟩ (by first | exact Nat.le_of_ble_eq_true rfl | (dsimp only; omega) | omega) (by first | exact Nat.le_of_ble_eq_true rfl | (dsimp only; omega) | omega) d_L1_indexOfChar_24
                                · skip
                                  refine lv_iload hx hb d_L1_indexOfChar_22 (lv_at hl 0 rfl) ?_
                                  exact ret_i hx hb hr hlk hP hD hS (nar_i _) ⟨by rw [f_ix, if_neg c_2, if_neg c_4, if_neg c_6, if_neg c_8, if_neg c_10, if_neg c_12, if_neg c_14, if_pos c_16], rfl⟩ (by first | exact Nat.le_of_ble_eq_true rfl | (dsimp only; omega) | omega) (by first | exact Nat.le_of_ble_eq_true rfl | (dsimp only; omega) | omega) d_L1_indexOfChar_24
                            · skip
                              refine lv_iload hx hb d_L1_indexOfChar_22 (lv_at hl 0 rfl) ?_
                              exact ret_i hx hb hr hlk hP hD hS (nar_i _) ⟨by rw [f_ix, if_neg c_2, if_neg c_4, if_neg c_6, if_neg c_8, if_neg c_10, if_neg c_12, if_pos c_14], rfl⟩ (by first | exact Nat.le_of_ble_eq_true rfl | (dsimp only; omega) | omega) (by first | exact Nat.le_of_ble_eq_true rfl | (dsimp only; omega) | omega) d_L1_indexOfChar_24
                        · skip
                          refine lv_iload hx hb d_L1_indexOfChar_22 (lv_at hl 0 rfl) ?_
                          exact ret_i hx hb hr hlk hP hD hS (nar_i _) ⟨by rw [f_ix, if_neg c_2, if_neg c_4, if_neg c_6, if_neg c_8, if_neg c_10, if_pos c_12], rfl⟩ (by first | exact Nat.le_of_ble_eq_true rfl | (dsimp only; omega) | omega) (by first | exact Nat.le_of_ble_eq_true rfl | (dsimp only; omega) | omega) d_L1_indexOfChar_24
                    · skip
                      refine lv_iload hx hb d_L1_indexOfChar_22 (lv_at hl 0 rfl) ?_
                      exact ret_i hx hb hr hlk hP hD hS (nar_i _) ⟨by rw [f_ix, if_neg c_2, if_neg c_4, if_neg c_6, if_neg c_8, if_pos c_10], rfl⟩ (by first | exact Nat.le_of_ble_eq_true rfl | (dsimp only; omega) | omega) (by first | exact Nat.le_of_ble_eq_true rfl | (dsimp only; omega) | omega) d_L1_indexOfChar_24
                · skip
                  refine lv_iload hx hb d_L1_indexOfChar_22 (lv_at hl 0 rfl) ?_
                  exact ret_i hx hb hr hlk hP hD hS (nar_i _) ⟨by rw [f_ix, if_neg c_2, if_neg c_4, if_neg c_6, if_pos c_8], rfl⟩ (by first | exact Nat.le_of_ble_eq_true rfl | (dsimp only; omega) | omega) (by first | exact Nat.le_of_ble_eq_true rfl | (dsimp only; omega) | omega) d_L1_indexOfChar_24
            · skip
              refine lv_iload hx hb d_L1_indexOfChar_22 (lv_at hl 0 rfl) ?_
              exact ret_i hx hb hr hlk hP hD hS (nar_i _) ⟨by rw [f_ix, if_neg c_2, if_neg c_4, if_pos c_6], rfl⟩ (by first | exact Nat.le_of_ble_eq_true rfl | (dsimp only; omega) | omega) (by first | exact Nat.le_of_ble_eq_true rfl | (dsimp only; omega) | omega) d_L1_indexOfChar_24
        · skip
          refine lv_iload hx hb d_L1_indexOfChar_22 (lv_at hl 0 rfl) ?_
          exact ret_i hx hb hr hlk hP hD hS (nar_i _) ⟨by rw [f_ix, if_neg c_2, if_pos c_4], rfl⟩ (by first | exact Nat.le_of_ble_eq_true rfl | (dsimp only; omega) | omega) (by first | exact Nat.le_of_ble_eq_true rfl | (dsimp only; omega) | omega) d_L1_indexOfChar_24
    · skip
      refine lv_iload hx hb d_L1_indexOfChar_22 (lv_at hl 0 rfl) ?_
      exact ret_i hx hb hr hlk hP hD hS (nar_i _) ⟨by rw [f_ix, if_pos c_2], rfl⟩ (by first | exact Nat.le_of_ble_eq_true rfl | (dsimp only; omega) | omega) (by first | exact Nat.le_of_ble_eq_true rfl | (dsimp only; omega) | omega) d_L1_indexOfChar_24
set_option maxRecDepth 100000 in
theorem k_L1_indexOf : ck y_L1_indexOf b_L1_indexOf 4 (some .int) 4 (.static y_L1_indexOf) := ⟨tk_of (List.mem_of_getElem? (i := 591) rfl) rfl, tk_of (List.mem_of_getElem? (i := 590) (by decide +kernel)) rfl, tk_of (List.mem_of_getElem? (i := 49) (by decide +kernel)) rfl, by decide +kernel⟩
theorem j_L1_88 : Cond.methodLink R_L1 88 y_L1_canEncode_I ∈ tk := tk_of (List.mem_of_getElem? (i := 592) (by decide +kernel)) rfl
theorem jm_L1_92 : Cond.methodLink R_L1 92 Lib.Math.max.name ∈ tk := tk_of (List.mem_of_getElem? (i := 595) (by decide +kernel)) rfl
theorem jm_L1_38 : Cond.methodLink R_L1 38 Lib.Math.min.name ∈ tk := tk_of (List.mem_of_getElem? (i := 596) (by decide +kernel)) rfl
theorem j_L1_95 : Cond.methodLink R_L1 95 y_L1_indexOfChar ∈ tk := tk_of (List.mem_of_getElem? (i := 597) (by decide +kernel)) rfl
set_option maxHeartbeats 4000000 in
set_option maxRecDepth 100000 in
theorem c_L1_indexOf (g : gT) (l : Launch) (sz : Nat) (ch : Nat) (hc : ch < 128) : Mg g l y_L1_indexOf b_L1_indexOf 4 (some .int) 1 25 0 0 [.ref (gV g 40), .int (nI ch), .int 0, .int 9] [] sz (qI g (fun r w1 => r = f_ix ch ∧ w1 = [])) := by
  refine mg_of (by decide) (Nat.le_of_ble_eq_true rfl) ?_
  intro p e s m below meth c ls A hx hb hF hr hlk hnm hA G hP hD hS hl
  have hK := G.2.1
  have hN := G.1
  have hl : lv_has ls 4 [(0, .ref (gV g 40)), (1, .int (nI ch)), (2, .int 0), (3, .int 9)] := hl
  refine lv_iload_n hx hb d_L1_indexOf_0 rfl (lv_at hl 1 rfl) ?_
  refine pm_callE hF hN (c_L1_canEncode_I l (nI ch)) k_L1_canEncode_I j_L1_88 ⟨Nat.le_of_ble_eq_true rfl, Nat.le_of_ble_eq_true rfl⟩ rfl hl.1 (Nat.le_of_ble_eq_true rfl) d_L1_indexOf_1 ⟨by first | exact Nat.le_of_ble_eq_true rfl | (dsimp only; omega) | omega | exact Nat.zero_le _, by first | exact Nat.le_of_ble_eq_true rfl | (dsimp only; omega) | omega | exact Nat.zero_le _⟩ ?_
  refine lv_if_ne (tgt := 9) hx hb d_L1_indexOf_4 (by decide) (fun c_2 => ?_) (fun c_2 => absurd c_2 (j_en ch hc))
  refine lv_iload_n hx hb d_L1_indexOf_9 rfl (lv_at hl 2 rfl) ?_
  refine lv_iconst (v := 0) hx hb d_L1_indexOf_10 (by decide) ?_
  refine va_mmax hx hb (hF.2.2.1.trans hl.1.symm) hF.2.2.2.1 (hF.2.2.2.2 _ jm_L1_92) (hF.2.2.2.2 _ jms_max) (hF.2.2.2.2 _ jmi) (hF.2.2.2.2 _ jmc_max) (Nat.le_of_ble_eq_true rfl) (Nat.le_of_ble_eq_true rfl) (by first | exact Nat.le_of_ble_eq_true rfl | (dsimp only; omega) | omega) (by first | exact Nat.le_of_ble_eq_true rfl | (dsimp only; omega) | omega) d_L1_indexOf_11 ?_
  refine tp_i (show (if 0 < 0 then 0 else 0) = 0 from by decide) ?_
  refine lv_istore_n (lv' := [(2, .int 0), (0, .ref (gV g 40)), (1, .int (nI ch)), (3, .int 9)]) hx hb d_L1_indexOf_14 rfl hl (by decide) rfl (fun ls hl => ?_)
  refine lv_iload_n hx hb d_L1_indexOf_15 rfl (lv_at hl 3 rfl) ?_
  refine lv_aload_n hx hb d_L1_indexOf_16 rfl (lv_at hl 1 rfl) ?_
  refine va_tlen hx hb (G.2.2.2.1 40 (by decide)).2.2.2 hS (v := nI (li_x 40).length) rfl d_L1_indexOf_17 ?_
  refine va_mmin hx hb (hF.2.2.1.trans hl.1.symm) hF.2.2.2.1 (hF.2.2.2.2 _ jm_L1_38) (hF.2.2.2.2 _ jms_min) (hF.2.2.2.2 _ jmi) (hF.2.2.2.2 _ jmc_min) (Nat.le_of_ble_eq_true rfl) (Nat.le_of_ble_eq_true rfl) (by first | exact Nat.le_of_ble_eq_true rfl | (dsimp only; omega) | omega) (by first | exact Nat.le_of_ble_eq_true rfl | (dsimp only; omega) | omega) d_L1_indexOf_18 ?_
  refine tp_i (show (if (nI (li_x 40).length) < 9 then (nI (li_x 40).length) else 9) = 9 from by decide) ?_
  refine lv_istore_n (lv' := [(3, .int 9), (2, .int 0), (0, .ref (gV g 40)), (1, .int (nI ch))]) hx hb d_L1_indexOf_21 rfl hl (by decide) rfl (fun ls hl => ?_)
  refine lv_iload_n hx hb d_L1_indexOf_22 rfl (lv_at hl 1 rfl) ?_
  refine lv_iload_n hx hb d_L1_indexOf_23 rfl (lv_at hl 0 rfl) ?_
  refine lv_icmp_lt (tgt := 29) hx hb d_L1_indexOf_24 (by decide) (fun c_3 => ?_) (fun c_3 => ?_)
  · skip
    refine lv_aload_n hx hb d_L1_indexOf_29 rfl (lv_at hl 2 rfl) ?_
    refine lv_iload_n hx hb d_L1_indexOf_30 rfl (lv_at hl 3 rfl) ?_
    refine lv_iload_n hx hb d_L1_indexOf_31 rfl (lv_at hl 1 rfl) ?_
    refine lv_iload_n hx hb d_L1_indexOf_32 rfl (lv_at hl 0 rfl) ?_
    refine go_i (wr := []) (run_S hF (c_L1_indexOfChar g l _ ch hc) k_L1_indexOfChar j_L1_95 (cw_down G hP hD hS hA [] rfl rfl) ⟨Nat.le_of_ble_eq_true rfl, Nat.le_of_ble_eq_true rfl⟩ rfl hl.1 (Nat.le_of_ble_eq_true rfl) d_L1_indexOf_33 ⟨(by first | exact Nat.le_of_ble_eq_true rfl | (dsimp only; omega) | omega), (by first | exact Nat.le_of_ble_eq_true rfl | (dsimp only; omega) | omega)⟩) hP hD hS hA [] [] rfl rfl rfl (by decide) (fun r_4 w1 H locs hp hP hD hS => ?_)
    obtain ⟨rfl, rfl⟩ := hp
    have hP : va_P (gD g) classes [] H := hP
    have hD : va_D A [] := hD
    exact ret_i hx hb hr hlk hP hD hS (nar_i _) ⟨rfl, rfl⟩ (by first | exact Nat.le_of_ble_eq_true rfl | (dsimp only; omega) | omega) (by first | exact Nat.le_of_ble_eq_true rfl | (dsimp only; omega) | omega) d_L1_indexOf_36
  · exact absurd c_3 (by decide)
set_option maxRecDepth 100000 in
theorem k_St_indexOf_II : ck y_St_indexOf_II b_St_indexOf_II 3 (some .int) 2 (.instanceMethod y_St_indexOf_II) := ⟨tk_of (List.mem_of_getElem? (i := 587) rfl) rfl, tk_of (List.mem_of_getElem? (i := 585) (by decide +kernel)) rfl, tk_of (List.mem_of_getElem? (i := 40) (by decide +kernel)) rfl, by decide +kernel⟩
theorem j_St_505 : Cond.methodLink R_St 505 y_St_length ∈ tk := tk_of (List.mem_of_getElem? (i := 588) (by decide +kernel)) rfl
theorem j_St_637 : Cond.methodLink R_St 637 y_L1_indexOf ∈ tk := tk_of (List.mem_of_getElem? (i := 589) (by decide +kernel)) rfl
set_option maxHeartbeats 4000000 in
set_option maxRecDepth 100000 in
theorem c_St_indexOf_II (g : gT) (l : Launch) (sz : Nat) (ch : Nat) (hc : ch < 128) : Mg g l y_St_indexOf_II b_St_indexOf_II 3 (some .int) 2 48 0 0 [.ref (gK g 40), .int (nI ch), .int 0] [] sz (qI g (fun r w1 => r = f_ix ch ∧ w1 = [])) := by
  refine mg_of (by decide) (Nat.le_of_ble_eq_true rfl) ?_
  intro p e s m below meth c ls A hx hb hF hr hlk hnm hA G hP hD hS hl
  have hK := G.2.1
  have hN := G.1
  have hl : lv_has ls 3 [(0, .ref (gK g 40)), (1, .int (nI ch)), (2, .int 0)] := hl
  refine lv_aload_n hx hb d_St_indexOf_II_0 rfl (lv_at hl 0 rfl) ?_
  refine go_i (wr := []) (run_V hF (c_St_isLatin1 g l _ 40 (by decide)) k_St_isLatin1 j_St_492 se_St_St_isLatin1 (va_Orecv (G.2.2.2.1 40 (by decide)).1 hS) (cw_down G hP hD hS hA [] rfl rfl) ⟨Nat.le_of_ble_eq_true rfl, Nat.le_of_ble_eq_true rfl⟩ rfl hl.1 (Nat.le_of_ble_eq_true rfl) d_St_indexOf_II_1 ⟨(by first | exact Nat.le_of_ble_eq_true rfl | (dsimp only; omega) | omega), (by first | exact Nat.le_of_ble_eq_true rfl | (dsimp only; omega) | omega)⟩) hP hD hS hA [] [] rfl rfl rfl (by decide) (fun r_1 w1 H locs hp hP hD hS => ?_)
  obtain ⟨rfl, rfl⟩ := hp
  have hP : va_P (gD g) classes [] H := hP
  have hD : va_D A [] := hD
  refine lv_if_eq (tgt := 23) hx hb d_St_indexOf_II_4 (by decide) (fun c_2 => ?_) (fun c_2 => ?_)
  · exact absurd c_2 (by decide)
  · skip
    refine lv_aload_n hx hb d_St_indexOf_II_7 rfl (lv_at hl 0 rfl) ?_
    refine vk_getf hx hb (G.2.2.2.1 40 (by decide)).2.2.1 hS hF.2.2.2.1 (hF.2.2.2.2 _ fl_St_9) (fun _ h9 => h9) d_St_indexOf_II_8 ?_
    refine lv_iload_n hx hb d_St_indexOf_II_11 rfl (lv_at hl 1 rfl) ?_
    refine lv_iload_n hx hb d_St_indexOf_II_12 rfl (lv_at hl 2 rfl) ?_
    refine lv_aload_n hx hb d_St_indexOf_II_13 rfl (lv_at hl 0 rfl) ?_
    refine go_i (wr := []) (run_V hF (c_St_length g l _ 40 (by decide)) k_St_length j_St_505 se_St_St_length (va_Orecv (G.2.2.2.1 40 (by decide)).1 hS) (cw_down G hP hD hS hA [] rfl rfl) ⟨Nat.le_of_ble_eq_true rfl, Nat.le_of_ble_eq_true rfl⟩ rfl hl.1 (Nat.le_of_ble_eq_true rfl) d_St_indexOf_II_14 ⟨(by first | exact Nat.le_of_ble_eq_true rfl | (dsimp only; omega) | omega), (by first | exact Nat.le_of_ble_eq_true rfl | (dsimp only; omega) | omega)⟩) hP hD hS hA [] [] rfl rfl rfl (by decide) (fun r_3 w1 H locs hp hP hD hS => ?_)
    obtain ⟨rfl, rfl⟩ := hp
    have hP : va_P (gD g) classes [] H := hP
    have hD : va_D A [] := hD
    refine tp_i (show (nI (li_x 40).length) = 9 from by decide) ?_
    refine go_i (wr := []) (run_S hF (c_L1_indexOf g l _ ch hc) k_L1_indexOf j_St_637 (cw_down G hP hD hS hA [] rfl rfl) ⟨Nat.le_of_ble_eq_true rfl, Nat.le_of_ble_eq_true rfl⟩ rfl hl.1 (Nat.le_of_ble_eq_true rfl) d_St_indexOf_II_17 ⟨(by first | exact Nat.le_of_ble_eq_true rfl | (dsimp only; omega) | omega), (by first | exact Nat.le_of_ble_eq_true rfl | (dsimp only; omega) | omega)⟩) hP hD hS hA [] [] rfl rfl rfl (by decide) (fun r_4 w1 H locs hp hP hD hS => ?_)
    obtain ⟨rfl, rfl⟩ := hp
    have hP : va_P (gD g) classes [] H := hP
    have hD : va_D A [] := hD
    refine lv_goto (tgt := 36) hx hb d_St_indexOf_II_20 (by decide) ?_
    exact ret_i hx hb hr hlk hP hD hS (nar_i _) ⟨rfl, rfl⟩ (by first | exact Nat.le_of_ble_eq_true rfl | (dsimp only; omega) | omega) (by first | exact Nat.le_of_ble_eq_true rfl | (dsimp only; omega) | omega) d_St_indexOf_II_36
set_option maxRecDepth 100000 in
theorem k_St_indexOf_I : ck y_St_indexOf_I b_St_indexOf_I 2 (some .int) 1 (.instanceMethod y_St_indexOf_I) := ⟨tk_of (List.mem_of_getElem? (i := 583) rfl) rfl, tk_of (List.mem_of_getElem? (i := 581) (by decide +kernel)) rfl, tk_of (List.mem_of_getElem? (i := 40) (by decide +kernel)) rfl, by decide +kernel⟩
theorem j_St_633 : Cond.methodLink R_St 633 y_St_indexOf_II ∈ tk := tk_of (List.mem_of_getElem? (i := 584) (by decide +kernel)) rfl
theorem se_St_St_indexOf_II : Cond.selects R_St y_St_indexOf_II y_St_indexOf_II ∈ tk := tk_of (List.mem_of_getElem? (i := 586) (by decide +kernel)) rfl
set_option maxHeartbeats 4000000 in
set_option maxRecDepth 100000 in
theorem c_St_indexOf_I (g : gT) (l : Launch) (sz : Nat) (ch : Nat) (hc : ch < 128) : Mg g l y_St_indexOf_I b_St_indexOf_I 2 (some .int) 3 70 0 0 [.ref (gK g 40), .int (nI ch)] [] sz (qI g (fun r w1 => r = f_ix ch ∧ w1 = [])) := by
  refine mg_of (by decide) (Nat.le_of_ble_eq_true rfl) ?_
  intro p e s m below meth c ls A hx hb hF hr hlk hnm hA G hP hD hS hl
  have hK := G.2.1
  have hN := G.1
  have hl : lv_has ls 2 [(0, .ref (gK g 40)), (1, .int (nI ch))] := hl
  refine lv_aload_n hx hb d_St_indexOf_I_0 rfl (lv_at hl 0 rfl) ?_
  refine lv_iload_n hx hb d_St_indexOf_I_1 rfl (lv_at hl 1 rfl) ?_
  refine lv_iconst (v := 0) hx hb d_St_indexOf_I_2 (by decide) ?_
  refine go_i (wr := []) (run_V hF (c_St_indexOf_II g l _ ch hc) k_St_indexOf_II j_St_633 se_St_St_indexOf_II (va_Orecv (G.2.2.2.1 40 (by decide)).1 hS) (cw_down G hP hD hS hA [] rfl rfl) ⟨Nat.le_of_ble_eq_true rfl, Nat.le_of_ble_eq_true rfl⟩ rfl hl.1 (Nat.le_of_ble_eq_true rfl) d_St_indexOf_I_3 ⟨(by first | exact Nat.le_of_ble_eq_true rfl | (dsimp only; omega) | omega), (by first | exact Nat.le_of_ble_eq_true rfl | (dsimp only; omega) | omega)⟩) hP hD hS hA [] [] rfl rfl rfl (by decide) (fun r_1 w1 H locs hp hP hD hS => ?_)
  obtain ⟨rfl, rfl⟩ := hp
  have hP : va_P (gD g) classes [] H := hP
  have hD : va_D A [] := hD
  exact ret_i hx hb hr hlk hP hD hS (nar_i _) ⟨rfl, rfl⟩ (by first | exact Nat.le_of_ble_eq_true rfl | (dsimp only; omega) | omega) (by first | exact Nat.le_of_ble_eq_true rfl | (dsimp only; omega) | omega) d_St_indexOf_I_6
