/-! THE CLAIM OUT OF ONE WALK OF THE LAW'S BODY. Your part is whole_start (and what it stands on); all else here is the same for every law, but numbers. -/
def R_law : String := "ApplesFallLaw"
def lw_P (b : Addr) (xs : List Int32) (args : Array Value) (s : State) : Prop := args = #[.ref b] ∧ s.IntsAt b xs ∧ xs.length ≤ 3072 ∧ (Jvm.Cond.and given_1 narrow_1).before args s = true
def lw_Q (_ : Array Value) (s : State) (o : Outcome) (t : State) : Prop := o = .returned (some (.int 1)) ∧ Framed s o t [] 600000 7302250
def lw_Z (below : List Frame) (a : Array Value) (s : State) : State → Prop := fun t => ∃ o, t.status = .running ∧ Ended t below o ∧ lw_Q a s o t
/-- the law's own end, with 1 on the stack, nothing written that was there before, its room as the claim has it -/
theorem lw_ret {p : Program} {l : Launch} {e : Env} {s : State} {m : MethodId} {below : List Frame} {meth : Method} {c : Code} {b : Nat} (hx : p.tables.exec = Jvm.exec) (hb : c.code = code) (hr : meth.sig.returnType = ret) (hlocks : meth.locks = false) {pc : Nat} {H : Heap} {ls : Array Slot} (hdg : decode code pc = .ok (.ireturn, 1)) : W p l e room_1 s m #[Value.ref b] below meth c H [] 600000 7302250 (lw_Z below #[Value.ref b] s) (F0 m pc ls [.int 1]) := by
  intro T hT X
  obtain ⟨fs, hret, hrun, hended, hW, hframe⟩ := X.leave (v := some (.int 1)) (hlocks := hlocks) (fun h => by rw [hr] at h; cases h)
  have hmeth' : T.vm.method? m = some meth := X.method'
  refine ⟨T.setFrames fs, ?_, .returned (some (.int 1)), hrun, hended, rfl, ⟨_, rfl⟩, hW, hframe⟩
  jvm_step X.here [X.here.top, hx, hb, hdg, hmeth', hr, ret, narrow_b1]
  (try refine ⟨rfl, ?_⟩); (try refine ⟨rfl, ?_⟩)
  first | (intro acts; rw [hret _ acts rfl rfl rfl]) | rw [hret _ _ rfl rfl rfl]
  exact Steps.refl _
/-- what holds at the law's entry: the machine, the code, the tables' words (any of lw_tbl by 'hts w (by decide +kernel)'), the script of L ints xs at the cell b, what the Statement gives of the start (any of its parts by flat_of_before) -/
def lw_At (p : Program) (s : State) (m : MethodId) (meth : Method) (c : Code) (b L : Nat) (xs : Nat → Int32) : Prop :=
  p.tables.exec = Jvm.exec ∧ c.code = code ∧ meth.sig.returnType = ret ∧ c.maxLocals = 4 ∧ s.vm.findClass R_law = some m.cls ∧ (∀ w ∈ lw_tbl, w.before #[Value.ref b] s = true) ∧ va_X b L xs s s.heap ∧ b < s.heap.size ∧ meth.locks = false ∧ (Jvm.Cond.and given_1 narrow_1).before #[Value.ref b] s = true
/-! the law's body: its script, its end -/
/-- what the law's own frame knows besides -/
def KP (X : En) (L : Nat) (xs : Nat → Int32) (Rm : Room) (s : State) (args : Array Value) : Prop := Rm = room_1 ∧ args = #[Value.ref (xe X 40)] ∧ va_X (xe X 40) L xs s s.heap ∧ xe X 40 < s.heap.size ∧ xb X = s.heap.size
def KL (X : En) (L : Nat) (xs : Nat → Int32) : Kt := fun Rm s args below t => KP X L xs Rm s args → lw_Z below args s t
theorem kl_no {X : En} {n : Nat} {xs : Nat → Int32} {p : Program} {e : Env} {Rm : Room} {s : State} {m : MethodId} {args : Array Value} {below : List Frame} {meth : Method} {c : Code} {H : Heap} {locs : List Loc} {cells slots : Nat} {g : JFrame} (h : ¬ KP X n xs Rm s args) : W p (xl X) e Rm s m args below meth c H locs cells slots (KL X n xs Rm s args below) g := by
  intro T hT Y
  exact ⟨T.setTop g, Steps.refl _, fun h2 => absurd h2 h⟩
section LAW
variable {X : En} {d : Nat} {y : MD} {b : Nat × Nat} {pc : Nat} {ls : List (Option Value)} {st : List Value} {S : Sh} {I : FI} {L : FL} {R : FR} {n : Nat} {xs : Nat → Int32}
theorem s_scr {i : Nat} (h : decode (yb y) pc = .ok (.iaload, 1)) (hi : i < n) (hn : n ≤ 3072) (kk : SW X d y b (pc + 1) ls (.int (xs i) :: st) S I L R (KL X n xs)) : SW X d y b pc ls (.int (nI i) :: .ref 1000040 :: st) S I L R (KL X n xs) := by
  intro p e Rm s m args below meth c H locs cells slots la hC hRm hW hS hl
  by_cases hP : KP X n xs Rm s args
  · have k0 := kk p e Rm s m args below meth c H locs cells slots la hC hRm hW hS hl
    obtain ⟨p1, p2, p3, p4, p5⟩ := hP
    have e1 : cvS X (.int (nI i) :: .ref 1000040 :: st) = .int (nI i) :: .ref (xe X 40) :: cvS X st := by
      show Value.int (nI i) :: cvS X (.ref 1000040 :: st) = _
      rw [cvS_far X (i := 40) rfl]
    have e2 : (nI i).toNatClampNeg = i := nI_clamp (by omega)
    rw [e1]
    refine va_sld hC.1 hC.2.1 p3 p4 (fun h2 => ?_) hS (vp_in_nI hi (by omega)) h ?_
    · have h3 : xb X ≤ xe X 40 := h2
      omega
    · rw [e2]; exact k0
  · exact kl_no hP
theorem s_scl (h : decode (yb y) pc = .ok (.arraylength, 1)) (kk : SW X d y b (pc + 1) ls (.int (nI n) :: st) S I L R (KL X n xs)) : SW X d y b pc ls (.ref 1000040 :: st) S I L R (KL X n xs) := by
  intro p e Rm s m args below meth c H locs cells slots la hC hRm hW hS hl
  by_cases hP : KP X n xs Rm s args
  · have k0 := kk p e Rm s m args below meth c H locs cells slots la hC hRm hW hS hl
    obtain ⟨p1, p2, p3, p4, p5⟩ := hP
    rw [cvS_far X (i := 40) rfl]
    refine va_slen hC.1 hC.2.1 p3 p4 (fun h2 => ?_) hS h k0
    have h3 : xb X ≤ xe X 40 := h2
    omega
  · exact kl_no hP
theorem s_lend (hb : yb y = code) (hr : yr y = ret) (h : decode code pc = .ok (.ireturn, 1)) : SW X d y b pc ls [.int 1] S I L R (KL X n xs) := by
  intro p e Rm s m args below meth c H locs cells slots la hC hRm hW hS hl
  by_cases hP : KP X n xs Rm s args
  · obtain ⟨p1, p2, p3, p4, p5⟩ := hP
    subst p1 p2
    obtain ⟨r1, r2, r3, r4⟩ := hRm
    have w1 : W p (xl X) e room_1 s m #[Value.ref (xe X 40)] below meth c H locs cells slots (lw_Z below #[Value.ref (xe X 40)] s) (F0 m pc la [.int 1]) := by
      refine va_forget (fun q hq => p5 ▸ hS.2.2 q hq) ?_
      refine W.widen (k := 600000) (n := 7302250) (Nat.le_trans (Nat.le_add_right _ _) r3) (Nat.le_trans (Nat.le_add_right _ _) r4) ?_
      exact lw_ret hC.1 (hC.2.1.trans hb) (hC.2.2.1.trans hr) hC.2.2.2.2.2.2.1 h
    intro T hT Y
    obtain ⟨t, h1, h2⟩ := w1 T hT Y
    exact ⟨t, h1, fun _ => h2⟩
  · exact kl_no hP
end LAW
