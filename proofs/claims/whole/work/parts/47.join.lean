theorem jn_v {p : Program} {l : Launch} {e : Env} {R : Room} {s : State} {m : MethodId} {args : Array Value} {below : List Frame} {meth : Method} {c : Code} {H : Heap} {locs : List Loc} {cells slots : Nat} {Q : State → Prop} {pc2 : Nat} {ls : Array Slot} {rest : List Value} {f : Int32} {g : JFrame}
    (k : W p l e R s m args below meth c H locs cells slots Q (F0 m pc2 ls (.int f :: rest))) (h : W p l e R s m args below meth c H locs cells slots Q (F0 m pc2 ls (.int f :: rest)) → W p l e R s m args below meth c H locs cells slots Q g) : W p l e R s m args below meth c H locs cells slots Q g := h k
/-- the text typed: td holds ys -/
def ty (ys : List Int32) (td : Nat → Int32) : Prop := ys.length ≤ 40 ∧ ∀ i, i < ys.length → td i = ys.getD i 0
theorem ty_one {ys : List Int32} {td : Nat → Int32} {c : Int32} (h : ty ys td) (hl : ys.length + 1 ≤ 40) : ty (z_M_one ys c) (upd td (nI ys.length : Int32).toNatClampNeg c) := by
  have h1 : mt ys td := ⟨by omega, h.2⟩
  have h2 := mt_one (c := c) h1 (by omega)
  exact ⟨by rw [z_one_len]; exact hl, h2.2⟩
theorem m_lt40 {n : Nat} (h : n ≤ 40) (h2 : ¬ nI n = 40) : n + 1 ≤ 40 := by
  rcases Nat.lt_or_ge n 40 with q | q
  · exact q
  · exact absurd (by rw [show n = 40 by omega]; rfl) h2
theorem m_slot {i : Int32} (h : ¬ f_M_in i 0 7 = 0) : vp_in i 8 := by
  have h1 : ¬ i < 0 := fun q => h (in_out (Or.inl q))
  have h2 : ¬ 7 < i := fun q => h (in_out (Or.inr q))
  obtain ⟨j, hj, rfl⟩ := nI_of h1
  refine vp_in_nI ?_ (by decide)
  rcases Nat.lt_or_ge j 8 with q | q
  · exact q
  · exact absurd (nI_lt (a := 7) (b := j) (by omega) hj) h2
