section PL
variable {p : Program} {l : Launch} {e : Env} {R : Room} {s : State} {m : MethodId} {args : Array Value} {below : List Frame} {meth : Method} {c : Code} {H : Heap} {locs : List Loc} {cells slots : Nat} {Q : State → Prop}
variable {cc b : ByteArray} {pc nL n fr lo index : Nat} {ls : Array Slot} {rest st0 As : List Value} {y : MethodName} {own : String}
theorem pl_callE {v : Int64} (hF : CallFix p m c cc nL s args tk own) (hN : Nst s) (hM : pmL l y b n fr lo As (fun r => r = v)) (k : ck y b n (some .long) As.length (.static y)) (hl : Cond.methodLink own index y ∈ tk)
    (hR : fr + 1 ≤ R.frames ∧ 8 + (n + 11) + lo ≤ R.locals) (hst : st0 = As.reverse ++ rest) (hsz : ls.size = nL) (hW : (rest.map fun v => v.category).sum ≤ 8) (hdg : decode cc pc = .ok (.invokestatic index, 3)) (hf : cells ≤ R.cells ∧ slots ≤ R.slots)
    (kk : W p l e R s m args below meth c H locs cells slots Q (F0 m (pc + 3) ls (.long v :: rest))) : W p l e R s m args below meth c H locs cells slots Q (F0 m pc ls st0) :=
  vp_callSl (W.runS hF hM ⟨callB_of As.length hF.2.2.2.2 (tk_in k.1) rfl rfl rfl (hF.2.2.2.2 _ k.2.2.1) (hF.2.2.2.2 _ hl) k.2.2.2 hR, hF.2.2.2.2 _ k.2.1⟩ ⟨nst_blind, fun _ _ hW => ⟨rfl, hN.warm hW⟩⟩ rfl rfl hsz hst (lv_room hW) hdg hf) (fun r er => by rw [er]; exact kk)
/-- x = 0 ? 0 : 1 -/
def zb (x : Int32) : Int32 := if x = 0 then 0 else 1
theorem jn_b {x : Int32} (hx : p.tables.exec = Jvm.exec) (hb : c.code = cc) (d0 : decode cc pc = .ok (.ifCond .eq 7, 3)) (d1 : decode cc (pc + 3) = .ok (.iconst 1, 1)) (d2 : decode cc (pc + 3 + 1) = .ok (.goto 4, 3)) (d3 : decode cc (pc + 7) = .ok (.iconst 0, 1))
    (k : W p l e R s m args below meth c H locs cells slots Q (F0 m (pc + 8) ls (.int (zb x) :: rest))) : W p l e R s m args below meth c H locs cells slots Q (F0 m pc ls (.int x :: rest)) := by
  refine lv_if_eq (tgt := pc + 7) hx hb d0 (by omega) (fun h => ?_) (fun h => ?_)
  · refine lv_iconst (v := 0) hx hb d3 (by decide) ?_
    rw [zb, if_pos h] at k
    exact k
  · refine lv_iconst (v := 1) hx hb d1 (by decide) ?_
    refine lv_goto (tgt := pc + 8) hx hb d2 (by omega) ?_
    rw [zb, if_neg h] at k
    exact k
end PL
/-- the model's text: made holds xs -/
def mt (xs : List Int32) (md : Nat → Int32) : Prop := xs.length ≤ 200 ∧ ∀ i, i < xs.length → md i = xs.getD i 0
theorem mt_one {xs : List Int32} {md : Nat → Int32} {c : Int32} (h : mt xs md) (hl : xs.length + 1 ≤ 200) : mt (xs ++ [c]) (upd md (nI xs.length : Int32).toNatClampNeg c) := by
  refine ⟨by rw [List.length_append]; exact hl, fun i hi => ?_⟩
  rw [List.length_append] at hi
  have hi2 : i < xs.length + 1 := hi
  rw [nI_clamp (by omega)]
  by_cases e : i = xs.length
  · subst e
    rw [pk_us]
    simp
  · rw [pk_un e, h.2 i (by omega)]
    simp [List.getD, List.getElem?_append_left (show i < xs.length by omega)]
def z_M_one (xs : List Int32) (c : Int32) : List Int32 := xs ++ [c]
theorem z_one_len (xs : List Int32) (c : Int32) : (z_M_one xs c).length = xs.length + 1 := by rw [z_M_one, List.length_append]; rfl
