/-- from place k up to place i each o becomes n -/
def rpf (k i : Nat) (o n : Int32) : Nat → List Int32 → List Int32
  | _, [] => []
  | j, c :: cs => (if k ≤ j ∧ j < i ∧ c = o then n else c) :: rpf k i o n (j + 1) cs
theorem rpf_len (k i : Nat) (o n : Int32) : ∀ (xs : List Int32) (j : Nat), (rpf k i o n j xs).length = xs.length := by
  intro xs
  induction xs with
  | nil => intro j; rfl
  | cons c cs ih => intro j; rw [rpf, List.length_cons, List.length_cons, ih]
theorem rpf_at (k i : Nat) (o n : Int32) : ∀ (xs : List Int32) (j p : Nat), p < xs.length → (rpf k i o n j xs).getD p 0 = if k ≤ j + p ∧ j + p < i ∧ xs.getD p 0 = o then n else xs.getD p 0 := by
  intro xs
  induction xs with
  | nil => intro j p hp; simp at hp
  | cons c cs ih =>
    intro j p hp
    rw [rpf]
    cases p with
    | zero => rfl
    | succ p =>
      have h1 := ih (j + 1) p (by simpa using hp)
      simp only [List.getD_cons_succ]
      rw [h1, show j + 1 + p = j + (p + 1) by omega]
theorem rpf_0 (k : Nat) (o n : Int32) : ∀ (xs : List Int32) (j : Nat), rpf k k o n j xs = xs := by
  intro xs
  induction xs with
  | nil => intro j; rfl
  | cons c cs ih => intro j; rw [rpf, ih, if_neg (by omega)]
theorem mt_rp1 {k i : Nat} {o n : Int32} {L : List Int32} {md : Nat → Int32} (hm : mt (rpf k i o n 0 L) md) (hk : k ≤ i) (hi : i < L.length) (hc : md i = o) : mt (rpf k (i + 1) o n 0 L) (upd md i n) := by
  have hl := rpf_len k i o n L 0
  refine ⟨by rw [rpf_len]; rw [← hl]; exact hm.1, fun p hp => ?_⟩
  rw [rpf_len] at hp
  have h2 := hm.2 p (by rw [hl]; exact hp)
  rw [rpf_at k i o n L 0 p hp] at h2
  rw [rpf_at k (i + 1) o n L 0 p hp]
  by_cases e : p = i
  · subst e
    have h3 : L.getD p 0 = o := by rw [if_neg (by omega)] at h2; rw [← h2]; exact hc
    rw [pk_us, if_pos ⟨by omega, by omega, h3⟩]
  · rw [pk_un e, h2]
    by_cases q : k ≤ 0 + p ∧ 0 + p < i ∧ L.getD p 0 = o
    · rw [if_pos q, if_pos ⟨q.1, by omega, q.2.2⟩]
    · rw [if_neg q, if_neg (fun z => q ⟨z.1, by omega, z.2.2⟩)]
theorem mt_rp0 {k i : Nat} {o n : Int32} {L : List Int32} {md : Nat → Int32} (hm : mt (rpf k i o n 0 L) md) (hi : i < L.length) (hc : ¬ md i = o) : mt (rpf k (i + 1) o n 0 L) md := by
  have hl := rpf_len k i o n L 0
  refine ⟨by rw [rpf_len]; rw [← hl]; exact hm.1, fun p hp => ?_⟩
  rw [rpf_len] at hp
  have h2 := hm.2 p (by rw [hl]; exact hp)
  rw [rpf_at k i o n L 0 p hp] at h2
  rw [rpf_at k (i + 1) o n L 0 p hp]
  by_cases e : p = i
  · subst e
    rw [if_neg (by omega)] at h2
    rw [if_neg (fun z => hc (h2.trans z.2.2))]
    exact h2
  · rw [h2]
    by_cases q : k ≤ 0 + p ∧ 0 + p < i ∧ L.getD p 0 = o
    · rw [if_pos q, if_pos ⟨q.1, by omega, q.2.2⟩]
    · rw [if_neg q, if_neg (fun z => q ⟨z.1, by omega, z.2.2⟩)]
theorem m_prim {t : Int32} (h : ¬ f_M_primitive t = 0) : vp_in t 9 := by
  have h1 : ¬ t < 0 := fun q => h (by rw [f_M_primitive]; exact in_out (Or.inl q))
  have h2 : ¬ 8 < t := fun q => h (by rw [f_M_primitive]; exact in_out (Or.inr q))
  obtain ⟨j, hj, rfl⟩ := nI_of h1
  refine vp_in_nI ?_ (by decide)
  rcases Nat.lt_or_ge j 9 with q | q
  · exact q
  · exact absurd (nI_lt (a := 8) (b := j) (by omega) hj) h2

def z_M_addTail (xs : List Int32) (t : Int32) : List Int32 := (if (f_M_levels t) ≤ 0 then xs else (if (f_M_levels t) ≤ 1 then (z_M_one (z_M_one xs 91) 93) else (z_M_one (z_M_one (z_M_one (z_M_one xs 91) 93) 91) 93)))
set_option maxRecDepth 100000 in
theorem k_M_addTail : ck y_M_addTail b_M_addTail 3 (none) 1 (.instanceMethod y_M_addTail) := ⟨tk_of (List.mem_of_getElem? (i := 778) rfl) rfl, tk_of (List.mem_of_getElem? (i := 777) (by decide +kernel)) rfl, tk_of (List.mem_of_getElem? (i := 43) (by decide +kernel)) rfl, by decide +kernel⟩
theorem j_M_113 : Cond.methodLink R_M 113 y_M_levels ∈ tk := tk_of (List.mem_of_getElem? (i := 713) (by decide +kernel)) rfl
set_option maxHeartbeats 4000000 in
set_option maxRecDepth 100000 in
theorem c_M_addTail (g : gT) (l : Launch) (sz : Nat) (h0 a1 a2 a3 a4 : Nat) (n2 n3 : Int32) (xs : List Int32) (md : Nat → Int32) (hm : mt xs md) (t : Int32) (hlen : xs.length + 4 ≤ 200) (hL : f_M_levels t ≤ 2) : Mg g l y_M_addTail b_M_addTail 3 (none) 1 21 0 0 [.ref h0, .int t] [(h0, .inr (4, [.ref a1, .int (nI xs.length), .ref a2, .int n2, .ref a3, .ref a4, .int n3])), (a1, .inl (gI g, 200, .inl md))] sz (qV g (fun w1 => ∃ md' : Nat → Int32, w1 = [(h0, .inr (4, [.ref a1, .int (nI (z_M_addTail xs t).length), .ref a2, .int n2, .ref a3, .ref a4, .int n3])), (a1, .inl (gI g, 200, .inl md'))] ∧ mt (z_M_addTail xs t) md' ∧ (z_M_addTail xs t).length ≤ xs.length + 4 ∧ xs.length ≤ (z_M_addTail xs t).length)) := by
  refine mg_of (by decide) (Nat.le_of_ble_eq_true rfl) ?_
  intro p e s m below meth c ls A hx hb hF hr hlk hnm hA G hP hD hS hl
  have hK := G.2.1
  have hN := G.1
  have hl : lv_has ls 3 [(0, .ref h0), (1, .int t)] := hl
  refine lv_iconst (v := 0) hx hb d_M_addTail_0 (by decide) ?_
  refine lv_istore_n (lv' := [(2, .int 0), (0, .ref h0), (1, .int t)]) hx hb d_M_addTail_1 rfl hl (by decide) rfl (fun ls hl => ?_)
  refine lv_iload_n hx hb d_M_addTail_2 rfl (lv_at hl 0 rfl) ?_
  refine lv_iload_n hx hb d_M_addTail_3 rfl (lv_at hl 2 rfl) ?_
  refine pm_callE hF hN (c_M_levels l t) k_M_levels j_M_113 ⟨Nat.le_of_ble_eq_true rfl, Nat.le_of_ble_eq_true rfl⟩ rfl hl.1 (Nat.le_of_ble_eq_true rfl) d_M_addTail_4 ⟨by first | omega | exact Nat.zero_le _, by first | omega | exact Nat.zero_le _⟩ ?_
  refine lv_icmp_ge (tgt := 28) hx hb d_M_addTail_7 (by decide) (fun c_2 => ?_) (fun c_2 => ?_)
  · skip
    have e : z_M_addTail xs t = xs := by rw [z_M_addTail, if_pos c_2]
    exact ret_v hx hb hr hlk (hP.sub (ws' := [(h0, .inr (4, [.ref a1, .int (nI xs.length), .ref a2, .int n2, .ref a3, .ref a4, .int n3])), (a1, .inl (gI g, 200, .inl md))]) [0, 1] rfl) (hD.sub (ws' := [(h0, .inr (4, [.ref a1, .int (nI xs.length), .ref a2, .int n2, .ref a3, .ref a4, .int n3])), (a1, .inl (gI g, 200, .inl md))]) [0, 1] rfl rfl) hS ⟨md, by rw [e], by rw [e]; exact hm, by rw [e]; omega, by rw [e]; omega⟩ (by first | exact Nat.le_of_ble_eq_true rfl | (dsimp only; omega) | omega) (by first | exact Nat.le_of_ble_eq_true rfl | (dsimp only; omega) | omega) d_M_addTail_28
  · skip
    refine lv_aload_n hx hb d_M_addTail_10 rfl (lv_at hl 1 rfl) ?_
    refine lv_bipush (v := 91) hx hb d_M_addTail_11 (by decide) ?_
    refine go_v (wr := []) (run_V hF (c_M_one g l _ h0 a1 a2 a3 a4 n2 n3 xs md hm 91 (by omega)) k_M_one j_M_79 se_M_M_one (va_recv hK hP (ci := 4) (q0 := 0) rfl rfl) (cw_down G hP hD hS hA [0, 1] rfl rfl) ⟨Nat.le_of_ble_eq_true rfl, Nat.le_of_ble_eq_true rfl⟩ rfl hl.1 (Nat.le_of_ble_eq_true rfl) d_M_addTail_13 ⟨(by first | exact Nat.le_of_ble_eq_true rfl | (dsimp only; omega) | omega), (by first | exact Nat.le_of_ble_eq_true rfl | (dsimp only; omega) | omega)⟩) hP hD hS hA [0, 1] [] rfl rfl rfl (by decide) (fun w1 H locs hp hP hD hS => ?_)
    obtain ⟨md_4, rfl, hm_4, hn_4, hn_4b⟩ := hp
    have hP : va_P (gD g) classes [(h0, .inr (4, [.ref a1, .int (nI (z_M_one xs 91).length), .ref a2, .int n2, .ref a3, .ref a4, .int n3])), (a1, .inl (gI g, 200, .inl md_4))] H := hP
    have hD : va_D A [(h0, .inr (4, [.ref a1, .int (nI (z_M_one xs 91).length), .ref a2, .int n2, .ref a3, .ref a4, .int n3])), (a1, .inl (gI g, 200, .inl md_4))] := hD
    refine lv_aload_n hx hb d_M_addTail_16 rfl (lv_at hl 1 rfl) ?_
    refine lv_bipush (v := 93) hx hb d_M_addTail_17 (by decide) ?_
    refine go_v (wr := []) (run_V hF (c_M_one g l _ h0 a1 a2 a3 a4 n2 n3 (z_M_one xs 91) md_4 hm_4 93 (by omega)) k_M_one j_M_79 se_M_M_one (va_recv hK hP (ci := 4) (q0 := 0) rfl rfl) (cw_down G hP hD hS hA [0, 1] rfl rfl) ⟨Nat.le_of_ble_eq_true rfl, Nat.le_of_ble_eq_true rfl⟩ rfl hl.1 (Nat.le_of_ble_eq_true rfl) d_M_addTail_19 ⟨(by first | exact Nat.le_of_ble_eq_true rfl | (dsimp only; omega) | omega), (by first | exact Nat.le_of_ble_eq_true rfl | (dsimp only; omega) | omega)⟩) hP hD hS hA [0, 1] [] rfl rfl rfl (by decide) (fun w1 H locs hp hP hD hS => ?_)
    obtain ⟨md_6, rfl, hm_6, hn_6, hn_6b⟩ := hp
    have hP : va_P (gD g) classes [(h0, .inr (4, [.ref a1, .int (nI (z_M_one (z_M_one xs 91) 93).length), .ref a2, .int n2, .ref a3, .ref a4, .int n3])), (a1, .inl (gI g, 200, .inl md_6))] H := hP
    have hD : va_D A [(h0, .inr (4, [.ref a1, .int (nI (z_M_one (z_M_one xs 91) 93).length), .ref a2, .int n2, .ref a3, .ref a4, .int n3])), (a1, .inl (gI g, 200, .inl md_6))] := hD
    refine lv_iinc (v := 1) (lv' := [(2, .int 1), (0, .ref h0), (1, .int t)]) hx hb d_M_addTail_22 hl (k := 0) rfl (by first | rfl | decide) (by decide) rfl (fun ls hl => ?_)
    refine lv_goto (tgt := 2) hx hb d_M_addTail_25 (by decide) ?_
    refine lv_iload_n hx hb d_M_addTail_2 rfl (lv_at hl 0 rfl) ?_
    refine lv_iload_n hx hb d_M_addTail_3 rfl (lv_at hl 2 rfl) ?_
    refine pm_callE hF hN (c_M_levels l t) k_M_levels j_M_113 ⟨Nat.le_of_ble_eq_true rfl, Nat.le_of_ble_eq_true rfl⟩ rfl hl.1 (Nat.le_of_ble_eq_true rfl) d_M_addTail_4 ⟨by first | omega | exact Nat.zero_le _, by first | omega | exact Nat.zero_le _⟩ ?_
    refine lv_icmp_ge (tgt := 28) hx hb d_M_addTail_7 (by decide) (fun c_8 => ?_) (fun c_8 => ?_)
    · skip
      have e : z_M_addTail xs t = (z_M_one (z_M_one xs 91) 93) := by rw [z_M_addTail, if_neg c_2, if_pos c_8]
      exact ret_v hx hb hr hlk (hP.sub (ws' := [(h0, .inr (4, [.ref a1, .int (nI (z_M_one (z_M_one xs 91) 93).length), .ref a2, .int n2, .ref a3, .ref a4, .int n3])), (a1, .inl (gI g, 200, .inl md_6))]) [0, 1] rfl) (hD.sub (ws' := [(h0, .inr (4, [.ref a1, .int (nI (z_M_one (z_M_one xs 91) 93).length), .ref a2, .int n2, .ref a3, .ref a4, .int n3])), (a1, .inl (gI g, 200, .inl md_6))]) [0, 1] rfl rfl) hS ⟨md_6, by rw [e], by rw [e]; exact hm_6, by rw [e]; omega, by rw [e]; omega⟩ (by first | exact Nat.le_of_ble_eq_true rfl | (dsimp only; omega) | omega) (by first | exact Nat.le_of_ble_eq_true rfl | (dsimp only; omega) | omega) d_M_addTail_28
    · skip
      refine lv_aload_n hx hb d_M_addTail_10 rfl (lv_at hl 1 rfl) ?_
      refine lv_bipush (v := 91) hx hb d_M_addTail_11 (by decide) ?_
      refine go_v (wr := []) (run_V hF (c_M_one g l _ h0 a1 a2 a3 a4 n2 n3 (z_M_one (z_M_one xs 91) 93) md_6 hm_6 91 (by omega)) k_M_one j_M_79 se_M_M_one (va_recv hK hP (ci := 4) (q0 := 0) rfl rfl) (cw_down G hP hD hS hA [0, 1] rfl rfl) ⟨Nat.le_of_ble_eq_true rfl, Nat.le_of_ble_eq_true rfl⟩ rfl hl.1 (Nat.le_of_ble_eq_true rfl) d_M_addTail_13 ⟨(by first | exact Nat.le_of_ble_eq_true rfl | (dsimp only; omega) | omega), (by first | exact Nat.le_of_ble_eq_true rfl | (dsimp only; omega) | omega)⟩) hP hD hS hA [0, 1] [] rfl rfl rfl (by decide) (fun w1 H locs hp hP hD hS => ?_)
      obtain ⟨md_10, rfl, hm_10, hn_10, hn_10b⟩ := hp
      have hP : va_P (gD g) classes [(h0, .inr (4, [.ref a1, .int (nI (z_M_one (z_M_one (z_M_one xs 91) 93) 91).length), .ref a2, .int n2, .ref a3, .ref a4, .int n3])), (a1, .inl (gI g, 200, .inl md_10))] H := hP
      have hD : va_D A [(h0, .inr (4, [.ref a1, .int (nI (z_M_one (z_M_one (z_M_one xs 91) 93) 91).length), .ref a2, .int n2, .ref a3, .ref a4, .int n3])), (a1, .inl (gI g, 200, .inl md_10))] := hD
      refine lv_aload_n hx hb d_M_addTail_16 rfl (lv_at hl 1 rfl) ?_
      refine lv_bipush (v := 93) hx hb d_M_addTail_17 (by decide) ?_
      refine go_v (wr := []) (run_V hF (c_M_one g l _ h0 a1 a2 a3 a4 n2 n3 (z_M_one (z_M_one (z_M_one xs 91) 93) 91) md_10 hm_10 93 (by omega)) k_M_one j_M_79 se_M_M_one (va_recv hK hP (ci := 4) (q0 := 0) rfl rfl) (cw_down G hP hD hS hA [0, 1] rfl rfl) ⟨Nat.le_of_ble_eq_true rfl, Nat.le_of_ble_eq_true rfl⟩ rfl hl.1 (Nat.le_of_ble_eq_true rfl) d_M_addTail_19 ⟨(by first | exact Nat.le_of_ble_eq_true rfl | (dsimp only; omega) | omega), (by first | exact Nat.le_of_ble_eq_true rfl | (dsimp only; omega) | omega)⟩) hP hD hS hA [0, 1] [] rfl rfl rfl (by decide) (fun w1 H locs hp hP hD hS => ?_)
      obtain ⟨md_12, rfl, hm_12, hn_12, hn_12b⟩ := hp
      have hP : va_P (gD g) classes [(h0, .inr (4, [.ref a1, .int (nI (z_M_one (z_M_one (z_M_one (z_M_one xs 91) 93) 91) 93).length), .ref a2, .int n2, .ref a3, .ref a4, .int n3])), (a1, .inl (gI g, 200, .inl md_12))] H := hP
      have hD : va_D A [(h0, .inr (4, [.ref a1, .int (nI (z_M_one (z_M_one (z_M_one (z_M_one xs 91) 93) 91) 93).length), .ref a2, .int n2, .ref a3, .ref a4, .int n3])), (a1, .inl (gI g, 200, .inl md_12))] := hD
      refine lv_iinc (v := 2) (lv' := [(2, .int 2), (0, .ref h0), (1, .int t)]) hx hb d_M_addTail_22 hl (k := 0) rfl (by first | rfl | decide) (by decide) rfl (fun ls hl => ?_)
      refine lv_goto (tgt := 2) hx hb d_M_addTail_25 (by decide) ?_
      refine lv_iload_n hx hb d_M_addTail_2 rfl (lv_at hl 0 rfl) ?_
      refine lv_iload_n hx hb d_M_addTail_3 rfl (lv_at hl 2 rfl) ?_
      refine pm_callE hF hN (c_M_levels l t) k_M_levels j_M_113 ⟨Nat.le_of_ble_eq_true rfl, Nat.le_of_ble_eq_true rfl⟩ rfl hl.1 (Nat.le_of_ble_eq_true rfl) d_M_addTail_4 ⟨by first | omega | exact Nat.zero_le _, by first | omega | exact Nat.zero_le _⟩ ?_
      refine lv_icmp_ge (tgt := 28) hx hb d_M_addTail_7 (by decide) (fun c_14 => ?_) (fun c_14 => absurd hL c_14)
      have e : z_M_addTail xs t = (z_M_one (z_M_one (z_M_one (z_M_one xs 91) 93) 91) 93) := by rw [z_M_addTail, if_neg c_2, if_neg c_8]
      exact ret_v hx hb hr hlk (hP.sub (ws' := [(h0, .inr (4, [.ref a1, .int (nI (z_M_one (z_M_one (z_M_one (z_M_one xs 91) 93) 91) 93).length), .ref a2, .int n2, .ref a3, .ref a4, .int n3])), (a1, .inl (gI g, 200, .inl md_12))]) [0, 1] rfl) (hD.sub (ws' := [(h0, .inr (4, [.ref a1, .int (nI (z_M_one (z_M_one (z_M_one (z_M_one xs 91) 93) 91) 93).length), .ref a2, .int n2, .ref a3, .ref a4, .int n3])), (a1, .inl (gI g, 200, .inl md_12))]) [0, 1] rfl rfl) hS ⟨md_12, by rw [e], by rw [e]; exact hm_12, by rw [e]; omega, by rw [e]; omega⟩ (by first | exact Nat.le_of_ble_eq_true rfl | (dsimp only; omega) | omega) (by first | exact Nat.le_of_ble_eq_true rfl | (dsimp only; omega) | omega) d_M_addTail_28
def z_M_addWord (xs : List Int32) (b : Int32) (u1 u2 : Int64) : List Int32 := (if b = 0 then xs else (if (nI xs.length) ≤ 0 then (z_M_add (z_M_add xs u1) u2) else (z_M_add (z_M_add (z_M_one xs 32) u1) u2)))
set_option maxRecDepth 100000 in
theorem k_M_addWord : ck y_M_addWord b_M_addWord 6 (none) 3 (.instanceMethod y_M_addWord) := ⟨tk_of (List.mem_of_getElem? (i := 788) rfl) rfl, tk_of (List.mem_of_getElem? (i := 787) (by decide +kernel)) rfl, tk_of (List.mem_of_getElem? (i := 43) (by decide +kernel)) rfl, by decide +kernel⟩
set_option maxHeartbeats 4000000 in
set_option maxRecDepth 100000 in
theorem c_M_addWord (g : gT) (l : Launch) (sz : Nat) (h0 a1 a2 a3 a4 : Nat) (n2 n3 : Int32) (xs : List Int32) (md : Nat → Int32) (hm : mt xs md) (b : Int32) (u1 u2 : Int64) (hlen : xs.length + 17 ≤ 200) : Mg g l y_M_addWord b_M_addWord 6 (none) 2 45 0 0 [.ref h0, .int b, .long u1, .long u2] [(h0, .inr (4, [.ref a1, .int (nI xs.length), .ref a2, .int n2, .ref a3, .ref a4, .int n3])), (a1, .inl (gI g, 200, .inl md))] sz (qV g (fun w1 => ∃ md' : Nat → Int32, w1 = [(h0, .inr (4, [.ref a1, .int (nI (z_M_addWord xs b u1 u2).length), .ref a2, .int n2, .ref a3, .ref a4, .int n3])), (a1, .inl (gI g, 200, .inl md'))] ∧ mt (z_M_addWord xs b u1 u2) md' ∧ (z_M_addWord xs b u1 u2).length ≤ xs.length + 17 ∧ xs.length ≤ (z_M_addWord xs b u1 u2).length)) := by
  refine mg_of (by decide) (Nat.le_of_ble_eq_true rfl) ?_
  intro p e s m below meth c ls A hx hb hF hr hlk hnm hA G hP hD hS hl
  have hK := G.2.1
  have hN := G.1
  have hl : lv_has ls 6 [(0, .ref h0), (1, .int b), (2, .long u1), (4, .long u2)] := hl
  refine lv_iload_n hx hb d_M_addWord_0 rfl (lv_at hl 1 rfl) ?_
  refine lv_if_ne (tgt := 5) hx hb d_M_addWord_1 (by decide) (fun c_1 => ?_) (fun c_1 => ?_)
  · skip
    refine lv_aload_n hx hb d_M_addWord_5 rfl (lv_at hl 0 rfl) ?_
    refine va_get (D := gD g) (ci := 4) (v := .int (nI xs.length)) (C := R_M) (T := F_M) (N := 7) hx hb hF.2.2.2.2 in_M hF.2.2.2.1 hK hP 0 rfl rfl 1 (by decide) (hF.2.2.2.2 _ fl_M_76) (fun _ h9 => h9) rfl d_M_addWord_6 ?_
    refine lv_if_le (tgt := 18) hx hb d_M_addWord_9 (by decide) (fun c_2 => ?_) (fun c_2 => ?_)
    · skip
      refine lv_aload_n hx hb d_M_addWord_18 rfl (lv_at hl 0 rfl) ?_
      refine lv_lload_n hx hb d_M_addWord_19 rfl (lv_at hl 2 rfl) ?_
      refine go_v (wr := []) (run_V hF (c_M_add g l _ h0 a1 a2 a3 a4 n2 n3 xs md hm u1 (by omega)) k_M_add j_M_85 se_M_M_add (va_recv hK hP (ci := 4) (q0 := 0) rfl rfl) (cw_down G hP hD hS hA [0, 1] rfl rfl) ⟨Nat.le_of_ble_eq_true rfl, Nat.le_of_ble_eq_true rfl⟩ rfl hl.1 (Nat.le_of_ble_eq_true rfl) d_M_addWord_20 ⟨(by first | exact Nat.le_of_ble_eq_true rfl | (dsimp only; omega) | omega), (by first | exact Nat.le_of_ble_eq_true rfl | (dsimp only; omega) | omega)⟩) hP hD hS hA [0, 1] [] rfl rfl rfl (by decide) (fun w1 H locs hp hP hD hS => ?_)
      obtain ⟨md_4, rfl, hm_4, hn_4, hn_4b⟩ := hp
      have hP : va_P (gD g) classes [(h0, .inr (4, [.ref a1, .int (nI (z_M_add xs u1).length), .ref a2, .int n2, .ref a3, .ref a4, .int n3])), (a1, .inl (gI g, 200, .inl md_4))] H := hP
      have hD : va_D A [(h0, .inr (4, [.ref a1, .int (nI (z_M_add xs u1).length), .ref a2, .int n2, .ref a3, .ref a4, .int n3])), (a1, .inl (gI g, 200, .inl md_4))] := hD
      refine lv_aload_n hx hb d_M_addWord_23 rfl (lv_at hl 0 rfl) ?_
      refine lv_lload hx hb d_M_addWord_24 (lv_at hl 3 rfl) ?_
      refine go_v (wr := []) (run_V hF (c_M_add g l _ h0 a1 a2 a3 a4 n2 n3 (z_M_add xs u1) md_4 hm_4 u2 (by omega)) k_M_add j_M_85 se_M_M_add (va_recv hK hP (ci := 4) (q0 := 0) rfl rfl) (cw_down G hP hD hS hA [0, 1] rfl rfl) ⟨Nat.le_of_ble_eq_true rfl, Nat.le_of_ble_eq_true rfl⟩ rfl hl.1 (Nat.le_of_ble_eq_true rfl) d_M_addWord_26 ⟨(by first | exact Nat.le_of_ble_eq_true rfl | (dsimp only; omega) | omega), (by first | exact Nat.le_of_ble_eq_true rfl | (dsimp only; omega) | omega)⟩) hP hD hS hA [0, 1] [] rfl rfl rfl (by decide) (fun w1 H locs hp hP hD hS => ?_)
      obtain ⟨md_6, rfl, hm_6, hn_6, hn_6b⟩ := hp
      have hP : va_P (gD g) classes [(h0, .inr (4, [.ref a1, .int (nI (z_M_add (z_M_add xs u1) u2).length), .ref a2, .int n2, .ref a3, .ref a4, .int n3])), (a1, .inl (gI g, 200, .inl md_6))] H := hP
      have hD : va_D A [(h0, .inr (4, [.ref a1, .int (nI (z_M_add (z_M_add xs u1) u2).length), .ref a2, .int n2, .ref a3, .ref a4, .int n3])), (a1, .inl (gI g, 200, .inl md_6))] := hD
      have e : z_M_addWord xs b u1 u2 = (z_M_add (z_M_add xs u1) u2) := by rw [z_M_addWord, if_neg c_1, if_pos c_2]
      exact ret_v hx hb hr hlk (hP.sub (ws' := [(h0, .inr (4, [.ref a1, .int (nI (z_M_add (z_M_add xs u1) u2).length), .ref a2, .int n2, .ref a3, .ref a4, .int n3])), (a1, .inl (gI g, 200, .inl md_6))]) [0, 1] rfl) (hD.sub (ws' := [(h0, .inr (4, [.ref a1, .int (nI (z_M_add (z_M_add xs u1) u2).length), .ref a2, .int n2, .ref a3, .ref a4, .int n3])), (a1, .inl (gI g, 200, .inl md_6))]) [0, 1] rfl rfl) hS ⟨md_6, by rw [e], by rw [e]; exact hm_6, by rw [e]; omega, by rw [e]; omega⟩ (by first | exact Nat.le_of_ble_eq_true rfl | (dsimp only; omega) | omega) (by first | exact Nat.le_of_ble_eq_true rfl | (dsimp only; omega) | omega) d_M_addWord_29
    · skip
      refine lv_aload_n hx hb d_M_addWord_12 rfl (lv_at hl 0 rfl) ?_
      refine lv_bipush (v := 32) hx hb d_M_addWord_13 (by decide) ?_
      refine go_v (wr := []) (run_V hF (c_M_one g l _ h0 a1 a2 a3 a4 n2 n3 xs md hm 32 (by omega)) k_M_one j_M_79 se_M_M_one (va_recv hK hP (ci := 4) (q0 := 0) rfl rfl) (cw_down G hP hD hS hA [0, 1] rfl rfl) ⟨Nat.le_of_ble_eq_true rfl, Nat.le_of_ble_eq_true rfl⟩ rfl hl.1 (Nat.le_of_ble_eq_true rfl) d_M_addWord_15 ⟨(by first | exact Nat.le_of_ble_eq_true rfl | (dsimp only; omega) | omega), (by first | exact Nat.le_of_ble_eq_true rfl | (dsimp only; omega) | omega)⟩) hP hD hS hA [0, 1] [] rfl rfl rfl (by decide) (fun w1 H locs hp hP hD hS => ?_)
      obtain ⟨md_8, rfl, hm_8, hn_8, hn_8b⟩ := hp
      have hP : va_P (gD g) classes [(h0, .inr (4, [.ref a1, .int (nI (z_M_one xs 32).length), .ref a2, .int n2, .ref a3, .ref a4, .int n3])), (a1, .inl (gI g, 200, .inl md_8))] H := hP
      have hD : va_D A [(h0, .inr (4, [.ref a1, .int (nI (z_M_one xs 32).length), .ref a2, .int n2, .ref a3, .ref a4, .int n3])), (a1, .inl (gI g, 200, .inl md_8))] := hD
      refine lv_aload_n hx hb d_M_addWord_18 rfl (lv_at hl 0 rfl) ?_
      refine lv_lload_n hx hb d_M_addWord_19 rfl (lv_at hl 2 rfl) ?_
      refine go_v (wr := []) (run_V hF (c_M_add g l _ h0 a1 a2 a3 a4 n2 n3 (z_M_one xs 32) md_8 hm_8 u1 (by omega)) k_M_add j_M_85 se_M_M_add (va_recv hK hP (ci := 4) (q0 := 0) rfl rfl) (cw_down G hP hD hS hA [0, 1] rfl rfl) ⟨Nat.le_of_ble_eq_true rfl, Nat.le_of_ble_eq_true rfl⟩ rfl hl.1 (Nat.le_of_ble_eq_true rfl) d_M_addWord_20 ⟨(by first | exact Nat.le_of_ble_eq_true rfl | (dsimp only; omega) | omega), (by first | exact Nat.le_of_ble_eq_true rfl | (dsimp only; omega) | omega)⟩) hP hD hS hA [0, 1] [] rfl rfl rfl (by decide) (fun w1 H locs hp hP hD hS => ?_)
      obtain ⟨md_10, rfl, hm_10, hn_10, hn_10b⟩ := hp
      have hP : va_P (gD g) classes [(h0, .inr (4, [.ref a1, .int (nI (z_M_add (z_M_one xs 32) u1).length), .ref a2, .int n2, .ref a3, .ref a4, .int n3])), (a1, .inl (gI g, 200, .inl md_10))] H := hP
      have hD : va_D A [(h0, .inr (4, [.ref a1, .int (nI (z_M_add (z_M_one xs 32) u1).length), .ref a2, .int n2, .ref a3, .ref a4, .int n3])), (a1, .inl (gI g, 200, .inl md_10))] := hD
      refine lv_aload_n hx hb d_M_addWord_23 rfl (lv_at hl 0 rfl) ?_
      refine lv_lload hx hb d_M_addWord_24 (lv_at hl 3 rfl) ?_
      refine go_v (wr := []) (run_V hF (c_M_add g l _ h0 a1 a2 a3 a4 n2 n3 (z_M_add (z_M_one xs 32) u1) md_10 hm_10 u2 (by omega)) k_M_add j_M_85 se_M_M_add (va_recv hK hP (ci := 4) (q0 := 0) rfl rfl) (cw_down G hP hD hS hA [0, 1] rfl rfl) ⟨Nat.le_of_ble_eq_true rfl, Nat.le_of_ble_eq_true rfl⟩ rfl hl.1 (Nat.le_of_ble_eq_true rfl) d_M_addWord_26 ⟨(by first | exact Nat.le_of_ble_eq_true rfl | (dsimp only; omega) | omega), (by first | exact Nat.le_of_ble_eq_true rfl | (dsimp only; omega) | omega)⟩) hP hD hS hA [0, 1] [] rfl rfl rfl (by decide) (fun w1 H locs hp hP hD hS => ?_)
      obtain ⟨md_12, rfl, hm_12, hn_12, hn_12b⟩ := hp
      have hP : va_P (gD g) classes [(h0, .inr (4, [.ref a1, .int (nI (z_M_add (z_M_add (z_M_one xs 32) u1) u2).length), .ref a2, .int n2, .ref a3, .ref a4, .int n3])), (a1, .inl (gI g, 200, .inl md_12))] H := hP
      have hD : va_D A [(h0, .inr (4, [.ref a1, .int (nI (z_M_add (z_M_add (z_M_one xs 32) u1) u2).length), .ref a2, .int n2, .ref a3, .ref a4, .int n3])), (a1, .inl (gI g, 200, .inl md_12))] := hD
      have e : z_M_addWord xs b u1 u2 = (z_M_add (z_M_add (z_M_one xs 32) u1) u2) := by rw [z_M_addWord, if_neg c_1, if_neg c_2]
      exact ret_v hx hb hr hlk (hP.sub (ws' := [(h0, .inr (4, [.ref a1, .int (nI (z_M_add (z_M_add (z_M_one xs 32) u1) u2).length), .ref a2, .int n2, .ref a3, .ref a4, .int n3])), (a1, .inl (gI g, 200, .inl md_12))]) [0, 1] rfl) (hD.sub (ws' := [(h0, .inr (4, [.ref a1, .int (nI (z_M_add (z_M_add (z_M_one xs 32) u1) u2).length), .ref a2, .int n2, .ref a3, .ref a4, .int n3])), (a1, .inl (gI g, 200, .inl md_12))]) [0, 1] rfl rfl) hS ⟨md_12, by rw [e], by rw [e]; exact hm_12, by rw [e]; omega, by rw [e]; omega⟩ (by first | exact Nat.le_of_ble_eq_true rfl | (dsimp only; omega) | omega) (by first | exact Nat.le_of_ble_eq_true rfl | (dsimp only; omega) | omega) d_M_addWord_29
  · skip
    have e : z_M_addWord xs b u1 u2 = xs := by rw [z_M_addWord, if_pos c_1]
    exact ret_v hx hb hr hlk (hP.sub (ws' := [(h0, .inr (4, [.ref a1, .int (nI xs.length), .ref a2, .int n2, .ref a3, .ref a4, .int n3])), (a1, .inl (gI g, 200, .inl md))]) [0, 1] rfl) (hD.sub (ws' := [(h0, .inr (4, [.ref a1, .int (nI xs.length), .ref a2, .int n2, .ref a3, .ref a4, .int n3])), (a1, .inl (gI g, 200, .inl md))]) [0, 1] rfl rfl) hS ⟨md, by rw [e], by rw [e]; exact hm, by rw [e]; omega, by rw [e]; omega⟩ (by first | exact Nat.le_of_ble_eq_true rfl | (dsimp only; omega) | omega) (by first | exact Nat.le_of_ble_eq_true rfl | (dsimp only; omega) | omega) d_M_addWord_4
