theorem l_head {i L : Nat} (hi : i ≤ 2100) (hL : L ≤ 2048) : (nI L - 4 < nI i) ↔ L < i + 4 := by
  rw [Int32.lt_iff_toInt_lt, show (4 : Int32) = nI 4 by decide, pk_sub_toInt (by omega) (by omega), nI_toInt (by omega)]; omega
set_option maxHeartbeats 4000000 in
set_option maxRecDepth 100000 in
theorem law_loop {p : Program} {l : Launch} {e : Env} {s : State} {m : MethodId} {below : List Frame} {meth : Method} {c : Code} {g : gT} {A : Nat → Prop} {Q : State → Prop} {b L : Nat} {xs : Nat → Int32} (hL : L ≤ 2048) (hx : p.tables.exec = Jvm.exec) (hb : c.code = b_L_law) (hF : CallFix p m c b_L_law 4 s #[Value.ref b] tk R_L) (hA : ∀ q, s.heap.size ≤ q → A q) (G : Gx g A s s.heap) (hX : va_X b L xs s s.heap) (hbl : b < s.heap.size) (hbA : ¬ A b) (p0 h0 : Nat) (hret : ∀ (H : Heap) (locs : List Loc) (ls : Array Slot) (cells slots : Nat), cells ≤ 600000 → slots ≤ 7302250 → va_S A s.heap H locs → W p l e ({ frames := 17, cells := 600000, slots := 7302250, locals := 670 }) s m #[Value.ref b] below meth c H locs cells slots Q (F0 m 701 ls [.int 1])) :
    ∀ (n i N cells slots : Nat), L + 4 ≤ i + 4 * n → i ≤ L → 4 * N ≤ i → 4 * cells ≤ 400 + 70 * i → 4 * slots ≤ 4000 + 2300 * i → ∀ (H : Heap) (locs : List Loc) (ls : Array Slot), lI g A p0 h0 N H → va_S A s.heap H locs → lv_has ls 4 [(3, .int (nI i)), (0, .ref b), (1, .ref p0), (2, .ref h0)] → W p l e ({ frames := 17, cells := 600000, slots := 7302250, locals := 670 }) s m #[Value.ref b] below meth c H locs cells slots Q (F0 m 18 ls []) := by
  intro n
  induction n with
  | zero => intro i N cells slots h1 h2; exact absurd h1 (by omega)
  | succ n ih =>
    intro i N cells slots h1 h2 h3 h4 h5 H locs ls hI hS hl
    refine lv_iload_n hx hb d_L_law_18 rfl (lv_at hl 0 rfl) ?_
    refine lv_aload_n hx hb d_L_law_19 rfl (lv_at hl 1 rfl) ?_
    refine va_slen hx hb hX hbl hbA hS d_L_law_20 ?_
    refine lv_iconst (v := 4) hx hb d_L_law_21 (by decide) ?_
    refine lv_isub hx hb d_L_law_22 ?_
    refine lv_icmp_gt (tgt := 700) hx hb d_L_law_23 (by decide) (fun c_1 => ?_) (fun c_1 => ?_)
    · refine lv_iconst (v := 1) hx hb d_L_law_700 (by decide) ?_
      exact hret _ _ _ _ _ (by omega) (by omega) hS
    · have hi : i + 4 ≤ L := by
        have q : ¬ (nI L - 4 < nI i) := c_1
        rw [l_head (by omega) hL] at q
        omega
      have hback : ∀ (N' : Nat) (H : Heap) (locs : List Loc) (ls : Array Slot) (cells' slots' : Nat), N' ≤ N + 1 → cells' ≤ cells + 70 → slots' ≤ slots + 2300 → lI g A p0 h0 N' H → va_S A s.heap H locs → lv_has ls 4 [(3, .int (nI i)), (0, .ref b), (1, .ref p0), (2, .ref h0)] → W p l e ({ frames := 17, cells := 600000, slots := 7302250, locals := 670 }) s m #[Value.ref b] below meth c H locs cells' slots' Q (F0 m 694 ls []) := by
        intro N' H locs ls cells' slots' k1 k2 k3 hI hS hl
        refine lv_iinc (v := nI (i + 4)) (lv' := [(3, .int (nI (i + 4))), (0, .ref b), (1, .ref p0), (2, .ref h0)]) hx hb d_L_law_694 hl (k := 0) rfl (by rw [← l_k4]; rfl) (by decide) rfl (fun ls hl => ?_)
        refine lv_goto (tgt := 18) hx hb d_L_law_697 (by decide) ?_
        exact ih (i + 4) N' cells' slots' (by omega) (by omega) (by omega) (by omega) (by omega) _ _ _ hI hS hl
      refine lv_aload_n hx hb d_L_law_26 rfl (lv_at hl 1 rfl) ?_
      refine lv_iload_n hx hb d_L_law_27 rfl (lv_at hl 0 rfl) ?_
      refine va_sld hx hb hX hbl hbA hS (vp_in_nI (n := i) (N := L) (by omega) (by omega)) d_L_law_28 ?_
      refine lv_bipush (v := 31) hx hb d_L_law_29 (by decide) ?_
      refine lv_iand hx hb d_L_law_31 ?_
      refine lv_topi (fun y ey => ?_)
      by_cases y_0 : y = 0
      · refine lv_tableIn (tgt := 120) (off := 88) hx hb d_L_law_32 (by rw [y_0]; decide) (by rw [y_0]; decide) (by rw [y_0]; decide) (by decide) ?_
        exact lc_0 hL hx hb hF hA G hX hbl hbA p0 h0 i N cells slots hi (by omega) (by omega) (by omega) hback _ _ _ hI hS hl
      by_cases y_1 : y = 1
      · refine lv_tableIn (tgt := 163) (off := 131) hx hb d_L_law_32 (by rw [y_1]; decide) (by rw [y_1]; decide) (by rw [y_1]; decide) (by decide) ?_
        exact lc_1 hL hx hb hF hA G hX hbl hbA p0 h0 i N cells slots hi (by omega) (by omega) (by omega) hback _ _ _ hI hS hl
      by_cases y_2 : y = 2
      · refine lv_tableIn (tgt := 196) (off := 164) hx hb d_L_law_32 (by rw [y_2]; decide) (by rw [y_2]; decide) (by rw [y_2]; decide) (by decide) ?_
        exact lc_2 hL hx hb hF hA G hX hbl hbA p0 h0 i N cells slots hi (by omega) (by omega) (by omega) hback _ _ _ hI hS hl
      by_cases y_3 : y = 3
      · refine lv_tableIn (tgt := 229) (off := 197) hx hb d_L_law_32 (by rw [y_3]; decide) (by rw [y_3]; decide) (by rw [y_3]; decide) (by decide) ?_
        exact lc_3 hL hx hb hF hA G hX hbl hbA p0 h0 i N cells slots hi (by omega) (by omega) (by omega) hback _ _ _ hI hS hl
      by_cases y_4 : y = 4
      · refine lv_tableIn (tgt := 262) (off := 230) hx hb d_L_law_32 (by rw [y_4]; decide) (by rw [y_4]; decide) (by rw [y_4]; decide) (by decide) ?_
        exact lc_4 hL hx hb hF hA G hX hbl hbA p0 h0 i N cells slots hi (by omega) (by omega) (by omega) hback _ _ _ hI hS hl
      by_cases y_5 : y = 5
      · refine lv_tableIn (tgt := 295) (off := 263) hx hb d_L_law_32 (by rw [y_5]; decide) (by rw [y_5]; decide) (by rw [y_5]; decide) (by decide) ?_
        exact lc_5 hL hx hb hF hA G hX hbl hbA p0 h0 i N cells slots hi (by omega) (by omega) (by omega) hback _ _ _ hI hS hl
      by_cases y_6 : y = 6
      · refine lv_tableIn (tgt := 328) (off := 296) hx hb d_L_law_32 (by rw [y_6]; decide) (by rw [y_6]; decide) (by rw [y_6]; decide) (by decide) ?_
        exact lc_6 hL hx hb hF hA G hX hbl hbA p0 h0 i N cells slots hi (by omega) (by omega) (by omega) hback _ _ _ hI hS hl
      by_cases y_7 : y = 7
      · refine lv_tableIn (tgt := 361) (off := 329) hx hb d_L_law_32 (by rw [y_7]; decide) (by rw [y_7]; decide) (by rw [y_7]; decide) (by decide) ?_
        exact lc_7 hL hx hb hF hA G hX hbl hbA p0 h0 i N cells slots hi (by omega) (by omega) (by omega) hback _ _ _ hI hS hl
      by_cases y_8 : y = 8
      · refine lv_tableIn (tgt := 394) (off := 362) hx hb d_L_law_32 (by rw [y_8]; decide) (by rw [y_8]; decide) (by rw [y_8]; decide) (by decide) ?_
        exact lc_8 hL hx hb hF hA G hX hbl hbA p0 h0 i N cells slots hi (by omega) (by omega) (by omega) hback _ _ _ hI hS hl
      by_cases y_9 : y = 9
      · refine lv_tableIn (tgt := 427) (off := 395) hx hb d_L_law_32 (by rw [y_9]; decide) (by rw [y_9]; decide) (by rw [y_9]; decide) (by decide) ?_
        exact lc_9 hL hx hb hF hA G hX hbl hbA p0 h0 i N cells slots hi (by omega) (by omega) (by omega) hback _ _ _ hI hS hl
      by_cases y_10 : y = 10
      · refine lv_tableIn (tgt := 450) (off := 418) hx hb d_L_law_32 (by rw [y_10]; decide) (by rw [y_10]; decide) (by rw [y_10]; decide) (by decide) ?_
        exact lc_10 hL hx hb hF hA G hX hbl hbA p0 h0 i N cells slots hi (by omega) (by omega) (by omega) hback _ _ _ hI hS hl
      by_cases y_11 : y = 11
      · refine lv_tableIn (tgt := 503) (off := 471) hx hb d_L_law_32 (by rw [y_11]; decide) (by rw [y_11]; decide) (by rw [y_11]; decide) (by decide) ?_
        exact lc_11 hL hx hb hF hA G hX hbl hbA p0 h0 i N cells slots hi (by omega) (by omega) (by omega) hback _ _ _ hI hS hl
      by_cases y_12 : y = 12
      · refine lv_tableIn (tgt := 516) (off := 484) hx hb d_L_law_32 (by rw [y_12]; decide) (by rw [y_12]; decide) (by rw [y_12]; decide) (by decide) ?_
        exact lc_12 hL hx hb hF hA G hX hbl hbA p0 h0 i N cells slots hi (by omega) (by omega) (by omega) hback _ _ _ hI hS hl
      by_cases y_13 : y = 13
      · refine lv_tableIn (tgt := 549) (off := 517) hx hb d_L_law_32 (by rw [y_13]; decide) (by rw [y_13]; decide) (by rw [y_13]; decide) (by decide) ?_
        exact lc_13 hL hx hb hF hA G hX hbl hbA p0 h0 i N cells slots hi (by omega) (by omega) (by omega) hback _ _ _ hI hS hl
      by_cases y_14 : y = 14
      · refine lv_tableIn (tgt := 572) (off := 540) hx hb d_L_law_32 (by rw [y_14]; decide) (by rw [y_14]; decide) (by rw [y_14]; decide) (by decide) ?_
        exact lc_14 hL hx hb hF hA G hX hbl hbA p0 h0 i N cells slots hi (by omega) (by omega) (by omega) hback _ _ _ hI hS hl
      by_cases y_15 : y = 15
      · refine lv_tableIn (tgt := 605) (off := 573) hx hb d_L_law_32 (by rw [y_15]; decide) (by rw [y_15]; decide) (by rw [y_15]; decide) (by decide) ?_
        exact lc_15 hL hx hb hF hA G hX hbl hbA p0 h0 i N cells slots hi (by omega) (by omega) (by omega) hback _ _ _ hI hS hl
      by_cases y_16 : y = 16
      · refine lv_tableIn (tgt := 638) (off := 606) hx hb d_L_law_32 (by rw [y_16]; decide) (by rw [y_16]; decide) (by rw [y_16]; decide) (by decide) ?_
        exact lc_16 hL hx hb hF hA G hX hbl hbA p0 h0 i N cells slots hi (by omega) (by omega) (by omega) hback _ _ _ hI hS hl
      by_cases y_17 : y = 17
      · refine lv_tableIn (tgt := 661) (off := 629) hx hb d_L_law_32 (by rw [y_17]; decide) (by rw [y_17]; decide) (by rw [y_17]; decide) (by decide) ?_
        exact lc_17 hL hx hb hF hA G hX hbl hbA p0 h0 i N cells slots hi (by omega) (by omega) (by omega) hback _ _ _ hI hS hl
      refine lv_tableOut (tgt := 694) hx hb d_L_law_32 (by have := lv_neT (a := 0) y_0 (by decide); have := lv_neT (a := 1) y_1 (by decide); have := lv_neT (a := 2) y_2 (by decide); have := lv_neT (a := 3) y_3 (by decide); have := lv_neT (a := 4) y_4 (by decide); have := lv_neT (a := 5) y_5 (by decide); have := lv_neT (a := 6) y_6 (by decide); have := lv_neT (a := 7) y_7 (by decide); have := lv_neT (a := 8) y_8 (by decide); have := lv_neT (a := 9) y_9 (by decide); have := lv_neT (a := 10) y_10 (by decide); have := lv_neT (a := 11) y_11 (by decide); have := lv_neT (a := 12) y_12 (by decide); have := lv_neT (a := 13) y_13 (by decide); have := lv_neT (a := 14) y_14 (by decide); have := lv_neT (a := 15) y_15 (by decide); have := lv_neT (a := 16) y_16 (by decide); have := lv_neT (a := 17) y_17 (by decide); omega) (by decide) ?_
      exact hback N _ _ _ _ _ (by omega) (by omega) (by omega) hI hS hl
