/-- a class that 'new' makes -/
def NewP (own : String) (ix c N : Nat) : Prop := ∃ (C : String) (T : u_T) (ty : Nat → FieldType), ClsOK c C T N ty ∧ Cond.classLink own ix C ∈ GW ∧ Cond.instantiable C N ∈ GW ∧ Cond.initialized C ∈ GW ∧ ∀ k, k < N → defaultValue (ty k) = (if fty c k = 0 then .int 0 else if fty c k = 1 then .long 0 else .null)
section ROWS3
variable {X : En} {d : Nat} {y : MD} {b : Nat × Nat} {pc : Nat} {ls : List (Option Value)} {st : List Value} {S : Sh} {I : FI} {L : FL} {R : FR} {K : Kt}
theorem worldPush {X : En} {S : Sh} {q : Nat × Nat} {I : FI} {L : FL} {R : FR} {H H1 : Heap} (hW : World X S I L R H) (hs : S.length < 1000000) (hz : H1.size = H.size + 1) (ho : ∀ a, a < H.size → H1[a]? = H[a]?) (he : va_at (xD X) vwCl (H.size, cellO X q (I S.length) (L S.length) (R S.length)) H1) : World X (S ++ [q]) I L R H1 := by
  refine ⟨by rw [hz, hW.1, List.length_append]; rfl, by rw [List.length_append]; show S.length + 1 ≤ _; omega, ?_⟩
  rw [wsO_push, xa_lt X hs, ← hW.1]
  refine va_P.app (hW.2.2.kept (fun k x hx => ho x.1 ((hW.2.2 k x hx).lt))) (fun k x hx => ?_)
  have hz : k < 1 := (List.getElem?_eq_some_iff.mp hx).1
  rw [show k = 0 by omega] at hx
  cases hx
  exact he
theorem keepS {A : Nat → Prop} {H0 H H1 : Heap} {locs : List Loc} (hS : va_S A H0 H locs) (hz : H1.size = H.size + 1) (ho : ∀ a, a < H.size → H1[a]? = H[a]?) : va_S A H0 H1 locs :=
  ⟨Nat.le_trans hS.1 (by omega), fun x h1 h2 => (ho x (Nat.lt_of_lt_of_le h1 hS.1)).trans (hS.2.1 x h1 h2), hS.2.2⟩
theorem s_new {c N ix b1 b2 : Nat} (h : decode (yb y) pc = .ok (.new ix, 3)) (f : NewP (yn y).cls ix c N) (hI : ∀ j, I S.length j = 0) (hL : ∀ j, L S.length j = 0) (hR : ∀ j, R S.length j = none) (hs : S.length < 1000000) (kk : SW X d y (b1, b2) (pc + 3) ls (.ref S.length :: st) (S ++ [(c, N)]) I L R K) : SW X d y (b1 + 1, b2 + N) pc ls st S I L R K := by
  intro p e Rm s m args below meth c0 H locs cells slots la hC hRm hW hS hl
  obtain ⟨C, T, ty, ⟨hc, hin, hty, hnm, hN, h9⟩, hk1, hk2, hk3, hdf⟩ := f
  have hts := hC.2.2.2.2.2.1
  have hown := hC.2.2.2.2.1
  have hKn := hC.2.2.2.2.2.2.2.2.1.1 c _ hc
  obtain ⟨r1, r2, r3, r4⟩ := hRm
  refine W.newcK hC.1 hC.2.1 hown (hts _ hk1) (hts _ hk2) (hts _ hk3) rfl h (by show cells + 1 ≤ _; have : cells + (b1 + 1) ≤ _ := r3; omega) (by have : slots + (b2 + N) ≤ _ := r4; omega) hKn.2.1 rfl fun H1 kC hkC e1 z1 o1 => ?_
  have hadr : H.size = xa X S.length := by rw [xa_lt X hs, hW.1]
  have hW1 : World X (S ++ [(c, N)]) I L R H1 := by
    refine worldPush hW hs z1 o1 ?_
    rw [cellO_c X h9]
    refine ⟨_, hc, (u_born ty hts hin hKn hkC e1 hty).to (fun j hj => ?_)⟩
    rw [hdf j hj]
    show _ = (cellF X c (I S.length) (L S.length) (R S.length)).getD j .null
    rw [List.getD_eq_getElem?_getD, cellF_get X (by rw [hN]; exact hj), hI, hL, hR]
    rfl
  have k0 := kk p e Rm s m args below meth c0 H1 locs (cells + 1) (slots + N) la hC ⟨r1, r2, by show cells + 1 + b1 ≤ _; have : cells + (b1 + 1) ≤ _ := r3; omega, by show slots + N + b2 ≤ _; have : slots + (b2 + N) ≤ _ := r4; omega⟩ hW1 (keepS hS z1 o1) hl
  rw [hadr]
  exact k0
theorem s_newI {N b1 b2 : Nat} {v : Int32} (h : decode (yb y) pc = .ok (.newarray .int, 2)) (f : Cond.arrayClass .int ∈ GW) (hn : ¬ v < 0) (hN : v.toNatClampNeg = N) (hb : N * 4 ≤ 536870912) (hI : ∀ j, I S.length j = 0) (hs : S.length < 1000000) (kk : SW X d y (b1, b2) (pc + 2) ls (.ref S.length :: st) (S ++ [(9, N)]) I L R K) : SW X d y (b1 + 1, b2 + N) pc ls (.int v :: st) S I L R K := by
  intro p e Rm s m args below meth c0 H locs cells slots la hC hRm hW hS hl
  have hts := hC.2.2.2.2.2.1
  obtain ⟨r1, r2, r3, r4⟩ := hRm
  refine va_newaK (atype := .int) hC.1 hC.2.1 (hts _ f) rfl h rfl hn hN hb (by have : cells + (b1 + 1) ≤ _ := r3; omega) (by have : slots + (b2 + N) ≤ _ := r4; omega) rfl fun H1 cA e1 z1 o1 _ hNm => ?_
  have hcA : cA = xc X 0 := Option.some.inj (hNm.symm.trans (hC.2.2.2.2.2.2.2.2.1.2 0 _ rfl).2)
  subst hcA
  have hadr : H.size = xa X S.length := by rw [xa_lt X hs, hW.1]
  have hW1 : World X (S ++ [(9, N)]) I L R H1 := by
    refine worldPush hW hs z1 o1 ?_
    rw [cellO_i]
    show H1[H.size]? = some (vp_cell _ _)
    rw [e1, vp_cell_i]
    congr 2
    funext j
    rw [hI]
    rfl
  have k0 := kk p e Rm s m args below meth c0 H1 locs (cells + 1) (slots + N) la hC ⟨r1, r2, by show cells + 1 + b1 ≤ _; have : cells + (b1 + 1) ≤ _ := r3; omega, by show slots + N + b2 ≤ _; have : slots + (b2 + N) ≤ _ := r4; omega⟩ hW1 (keepS hS z1 o1) hl
  rw [hadr]
  exact k0
theorem s_newZ {N b1 b2 : Nat} {v : Int32} (h : decode (yb y) pc = .ok (.newarray .boolean, 2)) (f : Cond.arrayClass .boolean ∈ GW) (hn : ¬ v < 0) (hN : v.toNatClampNeg = N) (hb : N * 4 ≤ 536870912) (hI : ∀ j, I S.length j = 0) (hs : S.length < 1000000) (kk : SW X d y (b1, b2) (pc + 2) ls (.ref S.length :: st) (S ++ [(10, N)]) I L R K) : SW X d y (b1 + 1, b2 + N) pc ls (.int v :: st) S I L R K := by
  intro p e Rm s m args below meth c0 H locs cells slots la hC hRm hW hS hl
  have hts := hC.2.2.2.2.2.1
  obtain ⟨r1, r2, r3, r4⟩ := hRm
  refine va_newaK (atype := .boolean) hC.1 hC.2.1 (hts _ f) rfl h rfl hn hN (Nat.le_trans (Nat.mul_le_mul_left N (by decide : componentBytes (newarray.typeOf .boolean) ≤ 4)) hb) (by have : cells + (b1 + 1) ≤ _ := r3; omega) (by have : slots + (b2 + N) ≤ _ := r4; omega) rfl fun H1 cA e1 z1 o1 _ hNm => ?_
  have hcA : cA = xc X 1 := Option.some.inj (hNm.symm.trans (hC.2.2.2.2.2.2.2.2.1.2 1 _ rfl).2)
  subst hcA
  have hadr : H.size = xa X S.length := by rw [xa_lt X hs, hW.1]
  have hW1 : World X (S ++ [(10, N)]) I L R H1 := by
    refine worldPush hW hs z1 o1 ?_
    rw [cellO_z]
    show H1[H.size]? = some (vp_cell _ _)
    rw [e1, vp_cell_i]
    congr 2
    funext j
    rw [hI]
    rfl
  have k0 := kk p e Rm s m args below meth c0 H1 locs (cells + 1) (slots + N) la hC ⟨r1, r2, by show cells + 1 + b1 ≤ _; have : cells + (b1 + 1) ≤ _ := r3; omega, by show slots + N + b2 ≤ _; have : slots + (b2 + N) ≤ _ := r4; omega⟩ hW1 (keepS hS z1 o1) hl
  rw [hadr]
  exact k0
theorem s_newQ {N ix a b1 b2 : Nat} {v : Int32} (h : decode (yb y) pc = .ok (.anewarray ix, 3)) (ha : a < 3) (f : Cond.classLink (yn y).cls ix (arrN a) ∈ GW) (hn : ¬ v < 0) (hN : v.toNatClampNeg = N) (hb : N * 4 ≤ 536870912) (hR : ∀ j, R S.length j = none) (hs : S.length < 1000000) (kk : SW X d y (b1, b2) (pc + 3) ls (.ref S.length :: st) (S ++ [(11 + a, N)]) I L R K) : SW X d y (b1 + 1, b2 + N) pc ls (.int v :: st) S I L R K := by
  intro p e Rm s m args below meth c0 H locs cells slots la hC hRm hW hS hl
  have hts := hC.2.2.2.2.2.1
  obtain ⟨r1, r2, r3, r4⟩ := hRm
  subst hN
  have hAO : (Cond.arrayOver (.object (arrN a))).before args s = true := by
    obtain ⟨-, -, -, -, -, -, -, h8, h9, h10, -⟩ := hC.2.2.2.2.2.2.2.2.2.2
    match a, ha with
    | 0, _ => exact va_AO.use h10
    | 1, _ => exact va_AO.use h9
    | 2, _ => exact va_AO.use h8
  refine W.anew hC.1 hC.2.1 hC.2.2.2.2.1 (hts _ f) hAO rfl h rfl hn hb (by have : cells + (b1 + 1) ≤ _ := r3; omega) (by have : slots + (b2 + v.toNatClampNeg) ≤ _ := r4; omega) fun cA kA comp f1 f2 f3 f4 => ?_
  have hq := hC.2.2.2.2.2.2.2.2.1.2 (2 + a) _ (tysX_q ha)
  have hcA : cA = xc X (2 + a) := by
    obtain ⟨-, kA', comp', k1, k2, k3, k4⟩ := hq
    exact Option.some.inj (f1.symm.trans k4)
  subst hcA
  generalize hH1 : H.push ({ cls := xc X (2 + a), slots := Array.replicate v.toNatClampNeg .null, vm := .none } : Cell) = H1
  have z1 : H1.size = H.size + 1 := by rw [← hH1, Array.size_push]
  have e1 : H1[H.size]? = some (arrV (xc X (2 + a)) v.toNatClampNeg (fun _ => .null)) := by rw [← hH1, Array.getElem?_push_size, ← arrV_new]
  have o1 : ∀ q : Nat, q < H.size → H1[q]? = H[q]? := fun q hq => by rw [← hH1, Array.getElem?_push, if_neg (Nat.ne_of_lt hq)]
  have hadr : H.size = xa X S.length := by rw [xa_lt X hs, hW.1]
  have hW1 : World X (S ++ [(11 + a, v.toNatClampNeg)]) I L R H1 := by
    refine worldPush hW hs z1 o1 ?_
    rw [cellO_q]
    show H1[H.size]? = some (vp_cell _ _)
    rw [e1, vp_cell_q]
    congr 2
    funext j
    rw [hR]
    rfl
  have k0 := kk p e Rm s m args below meth c0 H1 locs (cells + 1) (slots + v.toNatClampNeg) la hC ⟨r1, r2, by show cells + 1 + b1 ≤ _; have : cells + (b1 + 1) ≤ _ := r3; omega, by show slots + v.toNatClampNeg + b2 ≤ _; have : slots + (b2 + v.toNatClampNeg) ≤ _ := r4; omega⟩ hW1 (keepS hS z1 o1) hl
  rw [hadr]
  exact k0
-- the end of a method
theorem qcO_of {Q : Pst} {r : Option Value} {s : State} {H : Heap} {locs : List Loc} {a : Array Value} (hq : Q r S I L R) (hW : World X S I L R H) (hS : va_S (xA X) s.heap H locs) (t : State) (ht : t.heap = H) : QcO X Q a s (.returned (r.map (cv X))) t :=
  ⟨r, S, I, L, R, rfl, hq, by rw [ht]; exact hW, by rw [ht]; exact hS.1, fun q h1 h2 => by rw [ht]; exact hS.2.1 q h1 h2⟩
theorem s_iret {Q : Pst} {x : Int32} (h : decode (yb y) pc = .ok (.ireturn, 1)) (hr : yr y = some .int) (hq : Q (some (.int x)) S I L R) : SW X d y b pc ls [.int x] S I L R (KQ X Q) := by
  intro p e Rm s m args below meth c0 H locs cells slots la hC hRm hW hS hl
  obtain ⟨r1, r2, r3, r4⟩ := hRm
  refine W.widen (k := Rm.cells) (n := Rm.slots) (by omega) (by omega) ?_
  exact W.iret hC.1 hC.2.1 (hC.2.2.1.trans hr) (fun t ht _ => qcO_of hq hW hS t ht) hS.2.2 h hC.2.2.2.2.2.2.1
theorem s_zret {Q : Pst} {x : Int32} (h : decode (yb y) pc = .ok (.ireturn, 1)) (hr : yr y = some .boolean) (hx : x = 0 ∨ x = 1) (hq : Q (some (.int x)) S I L R) : SW X d y b pc ls [.int x] S I L R (KQ X Q) := by
  intro p e Rm s m args below meth c0 H locs cells slots la hC hRm hW hS hl
  obtain ⟨r1, r2, r3, r4⟩ := hRm
  refine W.widen (k := Rm.cells) (n := Rm.slots) (by omega) (by omega) ?_
  exact W.zret hC.1 hC.2.1 (hC.2.2.1.trans hr) (by rcases hx with rfl | rfl <;> decide) (fun t ht _ => qcO_of hq hW hS t ht) hS.2.2 h hC.2.2.2.2.2.2.1
theorem s_lret {Q : Pst} {x : Int64} (h : decode (yb y) pc = .ok (.lreturn, 1)) (hr : yr y = some .long) (hq : Q (some (.long x)) S I L R) : SW X d y b pc ls [.long x] S I L R (KQ X Q) := by
  intro p e Rm s m args below meth c0 H locs cells slots la hC hRm hW hS hl
  obtain ⟨r1, r2, r3, r4⟩ := hRm
  refine W.widen (k := Rm.cells) (n := Rm.slots) (by omega) (by omega) ?_
  exact W.lret hC.1 hC.2.1 (hC.2.2.1.trans hr) (fun t ht _ => qcO_of hq hW hS t ht) hS.2.2 h hC.2.2.2.2.2.2.1
theorem s_vret {Q : Pst} (h : decode (yb y) pc = .ok (.return_, 1)) (hr : yr y = none) (hq : Q none S I L R) : SW X d y b pc ls [] S I L R (KQ X Q) := by
  intro p e Rm s m args below meth c0 H locs cells slots la hC hRm hW hS hl
  obtain ⟨r1, r2, r3, r4⟩ := hRm
  refine W.widen (k := Rm.cells) (n := Rm.slots) (by omega) (by omega) ?_
  exact W.vret hC.1 hC.2.1 (hC.2.2.1.trans hr) (fun t ht _ => qcO_of hq hW hS t ht) hS.2.2 h hC.2.2.2.2.2.2.1
theorem s_aret {Q : Pst} {C : String} {r : Option Nat} (h : decode (yb y) pc = .ok (.areturn, 1)) (hr : yr y = some (.object C)) (hq : Q (some (va_rf r)) S I L R) : SW X d y b pc ls [va_rf r] S I L R (KQ X Q) := by
  intro p e Rm s m args below meth c0 H locs cells slots la hC hRm hW hS hl
  obtain ⟨r1, r2, r3, r4⟩ := hRm
  refine W.widen (k := Rm.cells) (n := Rm.slots) (by omega) (by omega) ?_
  exact W.aret hC.1 hC.2.1 (hC.2.2.1.trans hr) (Or.inl ⟨_, rfl⟩) (by rw [cv_rf]; cases r; exact Or.inl rfl; exact Or.inr ⟨_, rfl⟩) (fun t ht _ => qcO_of hq hW hS t ht) hS.2.2 h hC.2.2.2.2.2.2.1
-- calls
theorem run_go {p : Program} {e : Env} {Rm : Room} {s : State} {m : MethodId} {args : Array Value} {below : List Frame} {meth : Method} {c0 : Code} {H : Heap} {locs : List Loc} {cells slots mc ms : Nat} {Z : State → Prop} {la : Array Slot} {rest st0 : List Value} {a : Array Value} {Q : Pst}
    (hr : va_Run p (xl X) e Rm s m args below meth c0 H locs cells slots mc ms (F0 m pc la st0) rest (QcO X Q a) (xA X)) (hS : va_S (xA X) s.heap H locs)
    (kk : ∀ (r : Option Value) (S' : Sh) (I' : FI) (L' : FL) (R' : FR) (H1 : Heap) (locs1 : List Loc), Q r S' I' L' R' → World X S' I' L' R' H1 → va_S (xA X) s.heap H1 locs1 → W p (xl X) e Rm s m args below meth c0 H1 locs1 (cells + mc) (slots + ms) Z (F0 m (pc + 3) la ((r.map (cv X)).toList ++ rest))) : W p (xl X) e Rm s m args below meth c0 H locs cells slots Z (F0 m pc la st0) := by
  intro T hT Xs
  obtain ⟨v, st₀, t, T', L1, h0, X', hL, e1, e2, ⟨r, S', I', L', R', hv, hq, hW1, hz, hk⟩, st⟩ := hr T hT Xs
  cases hv
  rw [h0] at hz hk
  obtain ⟨t2, a1, b1⟩ := kk r S' I' L' R' T'.heap (locs ++ L1) hq (by rw [e1]; exact hW1)
    ⟨Nat.le_trans hS.1 (by rw [e1]; exact hz), fun q h1 h2 => by rw [e1, hk q (Nat.lt_of_lt_of_le h1 hS.1) h2]; exact hS.2.1 q h1 h2, fun q hq => by
      rcases List.mem_append.mp hq with h | h
      · exact hS.2.2 q h
      · exact hL q h⟩ T' rfl X'
  exact ⟨t2, st t2 a1, b1⟩
theorem cvS_ret (r : Option Value) (st : List Value) : (r.map (cv X)).toList ++ cvS X st = cvS X (r.toList ++ st) := by cases r <;> rfl
/-- a method's own words: its code, its name -/
def MOK (y : MD) : Prop := Cond.code (yn y) (yb y) (yl y) (yr y) ∈ GW ∧ Cond.initialized (yn y).cls ∈ GW ∧ ((yn y).cls ≠ "java/lang/invoke/MethodHandle" ∧ (yn y).cls ≠ "java/lang/invoke/VarHandle" ∧ (parseMethodDescriptor (yn y).desc).map (fun d => d.parameters.length) = some (ya y)) ∧ yl y ≤ 45
def VirP (own : String) (ix : Nat) (y : MD) : Prop := MOK y ∧ Cond.methodLink own ix (yn y) ∈ GW ∧ Cond.instanceMethod (yn y) ∈ GW ∧ Cond.selects (yn y).cls (yn y) (yn y) ∈ GW
def StaP (own : String) (ix : Nat) (y : MD) : Prop := MOK y ∧ Cond.methodLink own ix (yn y) ∈ GW ∧ Cond.static (yn y) ∈ GW
def SpcP (own : String) (ix : Nat) (y : MD) : Prop := MOK y ∧ Cond.methodLink own ix (yn y) ∈ GW ∧ Cond.instanceMethod (yn y) ∈ GW ∧ (yn y).name = "<init>" ∧ yr y = none
def StaNP (own : String) (ix : Nat) (y : MD) : Prop := MOK y ∧ (own, ix, yn y) ∈ nestL ∧ Cond.static (yn y) ∈ GW
def SpcNP (own : String) (ix : Nat) (y : MD) : Prop := MOK y ∧ (own, ix, yn y) ∈ nestL ∧ Cond.instanceMethod (yn y) ∈ GW ∧ (yn y).name = "<init>" ∧ yr y = none
theorem wsY_all {y2 : MD} (hy : MOK y2) {s : State} {args : Array Value} (hts : ∀ w ∈ GW, w.before args s = true) : GoodIn GW (wsY y2) := by
  intro w hw
  have key : ∀ w ∈ GW, w ∈ GW ∧ ((w.onTables && w.keeps) = true ∨ ∃ ty, w = .arrayClass ty) := fun w hw => ⟨hw, good_of_word (List.mem_filter.mp hw).2⟩
  rcases List.mem_cons.mp hw with rfl | hw
  · exact key _ hy.1
  · exact key _ hw
theorem roomOK {d d2 : Nat} {y2 : MD} {Rm : Room} (hd : d2 < d) (hy : MOK y2) {n1 n2 : Nat} (h : d ≤ Rm.frames ∧ 64 * d ≤ Rm.locals) : (rmD d2 n1 n2).frames + 1 ≤ Rm.frames ∧ 8 + (yl y2 + 11) + (rmD d2 n1 n2).locals ≤ Rm.locals := by
  have := hy.2.2.2
  have h1 : (rmD d2 n1 n2).frames = d2 := rfl
  have h2 : (rmD d2 n1 n2).locals = 64 * d2 := rfl
  rw [h1, h2]
  omega
theorem s_callV {y2 : MD} {d2 ix o n c : Nat} {b2 : Nat × Nat} {as st0 : List Value} {q : vw_C} {Q2 : Pst} (h : decode (yb y) pc = .ok (.invokevirtual ix, 3)) (f : VirP (yn y).cls ix y2) (hm : Ev X d2 y2 b2 (.ref o :: as) S I L R Q2) (hd : d2 < d) (ho : S[o]? = some (c, n)) (hc : vwCl[c]? = some q) (hqn : q.1 = (yn y2).cls) (hn : as.length = ya y2) (hst : st0 = as.reverse ++ .ref o :: st) (hw : (st.map fun v => v.category).sum ≤ 8) (hb : b2.1 ≤ b.1 ∧ b2.2 ≤ b.2) (h9 : c < 9)
    (kk : ∀ r S' I' L' R', Q2 r S' I' L' R' → SW X d y (b.1 - b2.1, b.2 - b2.2) (pc + 3) ls (r.toList ++ st) S' I' L' R' K) : SW X d y b pc ls st0 S I L R K := by
  intro p e Rm s m args below meth c0 H locs cells slots la hC hRm hW hS hl
  subst hst
  obtain ⟨r1, r2, r3, r4⟩ := hRm
  have hts := hC.2.2.2.2.2.1
  obtain ⟨hy, hk1, hk2, hk3⟩ := f
  have hGd := wsY_all hy (s := s) (args := args) hts
  have hP := preO (args := .ref o :: as) hC hW hS
  have hrecv := va_recv hC.2.2.2.2.2.2.2.2.1 hW.2.2 hc (fldAt (H := H) (X := X) (I := I) (L := L) (R := R) ho h9)
  rw [hqn] at hrecv
  have hcat : (cvS X st).map (fun v => v.category) = st.map (fun v => v.category) := by rw [List.map_map]; exact List.map_congr_left fun v _ => cv_cat X v
  have hrun := va_runV (index := ix) (C := (yn y2).cls) (As := cvS X as) (rest := cvS X st) (e := e) (R := Rm) (below := below) (meth := meth) (H := H) (locs := locs) (cells := cells) (slots := slots) (g := F0 m pc la (cvS X (as.reverse ++ .ref o :: st))) (own := (yn y).cls) (nL := yl y) (n := ya y2) ⟨hC.1, hC.2.1, hC.2.2.2.1, hC.2.2.2.2.1, hts⟩ hm
    ⟨callB_of (ya y2) hts hGd rfl rfl rfl (hts _ hy.2.1) (hts _ hk1) hy.2.2.1 (roomOK hd hy ⟨r1, r2⟩), hts _ hk2, hts _ hk3⟩ ⟨hP.1, hrecv, hP.2⟩ rfl (by rw [List.length_map]; exact hn) hl.1 (by show cvS X _ = _; simp [cvS, List.map_reverse]; rfl) (by show 2 * 0 + ((cvS X st).map _).sum ≤ 8; rw [hcat]; omega) h ⟨by omega, by omega⟩
  refine run_go hrun hS (fun r S' I' L' R' H1 locs1 hq hW1 hS1 => ?_)
  rw [cvS_ret]
  exact kk r S' I' L' R' hq p e Rm s m args below meth c0 H1 locs1 (cells + b2.1) (slots + b2.2) la hC ⟨r1, r2, by show cells + b2.1 + (b.1 - b2.1) ≤ _; omega, by show slots + b2.2 + (b.2 - b2.2) ≤ _; omega⟩ hW1 hS1 hl
theorem s_callS {y2 : MD} {d2 ix : Nat} {b2 : Nat × Nat} {as st0 : List Value} {Q2 : Pst} (h : decode (yb y) pc = .ok (.invokestatic ix, 3)) (f : StaP (yn y).cls ix y2) (hm : Ev X d2 y2 b2 as S I L R Q2) (hd : d2 < d) (hn : as.length = ya y2) (hst : st0 = as.reverse ++ st) (hw : (st.map fun v => v.category).sum ≤ 8) (hb : b2.1 ≤ b.1 ∧ b2.2 ≤ b.2)
    (kk : ∀ r S' I' L' R', Q2 r S' I' L' R' → SW X d y (b.1 - b2.1, b.2 - b2.2) (pc + 3) ls (r.toList ++ st) S' I' L' R' K) : SW X d y b pc ls st0 S I L R K := by
  intro p e Rm s m args below meth c0 H locs cells slots la hC hRm hW hS hl
  subst hst
  obtain ⟨r1, r2, r3, r4⟩ := hRm
  have hts := hC.2.2.2.2.2.1
  obtain ⟨hy, hk1, hk2⟩ := f
  have hGd := wsY_all hy (s := s) (args := args) hts
  have hcat : (cvS X st).map (fun v => v.category) = st.map (fun v => v.category) := by rw [List.map_map]; exact List.map_congr_left fun v _ => cv_cat X v
  have hrun := va_runS (index := ix) (As := cvS X as) (rest := cvS X st) (e := e) (R := Rm) (below := below) (meth := meth) (H := H) (locs := locs) (cells := cells) (slots := slots) (g := F0 m pc la (cvS X (as.reverse ++ st))) (own := (yn y).cls) (nL := yl y) (n := ya y2) ⟨hC.1, hC.2.1, hC.2.2.2.1, hC.2.2.2.2.1, hts⟩ hm
    ⟨callB_of (ya y2) hts hGd rfl rfl rfl (hts _ hy.2.1) (hts _ hk1) hy.2.2.1 (roomOK hd hy ⟨r1, r2⟩), hts _ hk2⟩ (preO (args := as) hC hW hS) rfl (by rw [List.length_map]; exact hn) hl.1 (by show cvS X _ = _; simp [cvS, List.map_reverse]) (by show 2 * 0 + ((cvS X st).map _).sum ≤ 8; rw [hcat]; omega) h ⟨by omega, by omega⟩
  refine run_go hrun hS (fun r S' I' L' R' H1 locs1 hq hW1 hS1 => ?_)
  rw [cvS_ret]
  exact kk r S' I' L' R' hq p e Rm s m args below meth c0 H1 locs1 (cells + b2.1) (slots + b2.2) la hC ⟨r1, r2, by show cells + b2.1 + (b.1 - b2.1) ≤ _; omega, by show slots + b2.2 + (b.2 - b2.2) ≤ _; omega⟩ hW1 hS1 hl
theorem s_callI {y2 : MD} {d2 ix o : Nat} {b2 : Nat × Nat} {as st0 : List Value} {Q2 : Pst} (h : decode (yb y) pc = .ok (.invokespecial ix, 3)) (f : SpcP (yn y).cls ix y2) (hm : Ev X d2 y2 b2 (.ref o :: as) S I L R Q2) (hd : d2 < d) (hn : as.length = ya y2) (hst : st0 = as.reverse ++ .ref o :: st) (hw : (st.map fun v => v.category).sum ≤ 8) (hb : b2.1 ≤ b.1 ∧ b2.2 ≤ b.2)
    (kk : ∀ r S' I' L' R', Q2 r S' I' L' R' → SW X d y (b.1 - b2.1, b.2 - b2.2) (pc + 3) ls (r.toList ++ st) S' I' L' R' K) : SW X d y b pc ls st0 S I L R K := by
  intro p e Rm s m args below meth c0 H locs cells slots la hC hRm hW hS hl
  subst hst
  obtain ⟨r1, r2, r3, r4⟩ := hRm
  have hts := hC.2.2.2.2.2.1
  obtain ⟨hy, hk1, hk2, hk3, hk4⟩ := f
  have hGd := wsY_all hy (s := s) (args := args) hts
  have hcat : (cvS X st).map (fun v => v.category) = st.map (fun v => v.category) := by rw [List.map_map]; exact List.map_congr_left fun v _ => cv_cat X v
  have hrun := va_runI (index := ix) (b := xa X o) (As := cvS X as) (rest := cvS X st) (e := e) (R := Rm) (below := below) (meth := meth) (H := H) (locs := locs) (cells := cells) (slots := slots) (g := F0 m pc la (cvS X (as.reverse ++ .ref o :: st))) (own := (yn y).cls) (nL := yl y) (n := ya y2) ⟨hC.1, hC.2.1, hC.2.2.2.1, hC.2.2.2.2.1, hts⟩ hm
    ⟨callB_of (bytes := yb y2) (maxL := yl y2) (ya y2) hts hGd (by rw [← hk4]; rfl) rfl rfl (hts _ hy.2.1) (hts _ hk1) hy.2.2.1 (roomOK hd hy ⟨r1, r2⟩), hk3, hts _ hk2⟩ (preO (args := .ref o :: as) hC hW hS) rfl (by rw [List.length_map]; exact hn) hl.1 (by show cvS X _ = _; simp [cvS, List.map_reverse]; rfl) (by show 2 * 0 + ((cvS X st).map _).sum ≤ 8; rw [hcat]; omega) h ⟨by omega, by omega⟩
  refine run_go hrun hS (fun r S' I' L' R' H1 locs1 hq hW1 hS1 => ?_)
  rw [cvS_ret]
  exact kk r S' I' L' R' hq p e Rm s m args below meth c0 H1 locs1 (cells + b2.1) (slots + b2.2) la hC ⟨r1, r2, by show cells + b2.1 + (b.1 - b2.1) ≤ _; omega, by show slots + b2.2 + (b.2 - b2.2) ≤ _; omega⟩ hW1 hS1 hl
theorem cnB {own : String} {index : Nat} {y2 : MD} {d d2 n1 n2 : Nat} {Rm : Room} {s : State} {args : Array Value} (hy : MOK y2) (hts : ∀ w ∈ GW, w.before args s = true) (hl : va_Nw (.methodLinkNest own index (yn y2) "ApplesFall") s) (hd : d2 < d) (h : d ≤ Rm.frames ∧ 64 * d ≤ Rm.locals) : va_CN Rm s args own index (yn y2) "ApplesFall" (yb y2) (yl y2) (yr y2) (wsY y2) (rmD d2 n1 n2) n1 n2 (ya y2) := by
  refine ⟨⟨rfl, rfl, (roomOK (n1 := n1) (n2 := n2) hd hy h).1, (roomOK (n1 := n1) (n2 := n2) hd hy h).2, pay_in hts (wsY_all hy hts), List.mem_cons_self⟩, hts _ hy.1, hts _ hy.2.1, ⟨hy.2.2.1.1, hy.2.2.1.2.1⟩, fun sig hsig => ?_, va_Nw.use rfl hl⟩
  have h2 := hy.2.2.1.2.2
  rw [hsig] at h2
  exact (Option.some.inj h2).symm
theorem s_callSN {y2 : MD} {d2 ix : Nat} {b2 : Nat × Nat} {as st0 : List Value} {Q2 : Pst} (h : decode (yb y) pc = .ok (.invokestatic ix, 3)) (f : StaNP (yn y).cls ix y2) (hm : Ev X d2 y2 b2 as S I L R Q2) (hd : d2 < d) (hn : as.length = ya y2) (hst : st0 = as.reverse ++ st) (hw : (st.map fun v => v.category).sum ≤ 8) (hb : b2.1 ≤ b.1 ∧ b2.2 ≤ b.2)
    (kk : ∀ r S' I' L' R', Q2 r S' I' L' R' → SW X d y (b.1 - b2.1, b.2 - b2.2) (pc + 3) ls (r.toList ++ st) S' I' L' R' K) : SW X d y b pc ls st0 S I L R K := by
  intro p e Rm s m args below meth c0 H locs cells slots la hC hRm hW hS hl
  subst hst
  obtain ⟨r1, r2, r3, r4⟩ := hRm
  have hts := hC.2.2.2.2.2.1
  obtain ⟨hy, hk1, hk2⟩ := f
  have hcat : (cvS X st).map (fun v => v.category) = st.map (fun v => v.category) := by rw [List.map_map]; exact List.map_congr_left fun v _ => cv_cat X v
  have hrun := va_runSN (index := ix) (As := cvS X as) (rest := cvS X st) (e := e) (R := Rm) (below := below) (meth := meth) (H := H) (locs := locs) (cells := cells) (slots := slots) (g := F0 m pc la (cvS X (as.reverse ++ st))) (own := (yn y).cls) (nL := yl y) (n := ya y2) ⟨hC.1, hC.2.1, hC.2.2.2.1, hC.2.2.2.2.1, hts⟩ hm
    ⟨cnB hy hts (hC.2.2.2.2.2.2.2.2.2.2.2.2.2.2.2.2.2.2.2.2 _ hk1) hd ⟨r1, r2⟩, hts _ hk2, trivial⟩ (preO (args := as) hC hW hS) rfl (by rw [List.length_map]; exact hn) hl.1 (by show cvS X _ = _; simp [cvS, List.map_reverse]) (by show 2 * 0 + ((cvS X st).map _).sum ≤ 8; rw [hcat]; omega) h ⟨by omega, by omega⟩
  refine run_go hrun hS (fun r S' I' L' R' H1 locs1 hq hW1 hS1 => ?_)
  rw [cvS_ret]
  exact kk r S' I' L' R' hq p e Rm s m args below meth c0 H1 locs1 (cells + b2.1) (slots + b2.2) la hC ⟨r1, r2, by show cells + b2.1 + (b.1 - b2.1) ≤ _; omega, by show slots + b2.2 + (b.2 - b2.2) ≤ _; omega⟩ hW1 hS1 hl
theorem s_callIN {y2 : MD} {d2 ix o : Nat} {b2 : Nat × Nat} {as st0 : List Value} {Q2 : Pst} (h : decode (yb y) pc = .ok (.invokespecial ix, 3)) (f : SpcNP (yn y).cls ix y2) (hm : Ev X d2 y2 b2 (.ref o :: as) S I L R Q2) (hd : d2 < d) (hn : as.length = ya y2) (hst : st0 = as.reverse ++ .ref o :: st) (hw : (st.map fun v => v.category).sum ≤ 8) (hb : b2.1 ≤ b.1 ∧ b2.2 ≤ b.2)
    (kk : ∀ r S' I' L' R', Q2 r S' I' L' R' → SW X d y (b.1 - b2.1, b.2 - b2.2) (pc + 3) ls (r.toList ++ st) S' I' L' R' K) : SW X d y b pc ls st0 S I L R K := by
  intro p e Rm s m args below meth c0 H locs cells slots la hC hRm hW hS hl
  subst hst
  obtain ⟨r1, r2, r3, r4⟩ := hRm
  have hts := hC.2.2.2.2.2.1
  obtain ⟨hy, hk1, hk2, hk3, hk4⟩ := f
  have hcat : (cvS X st).map (fun v => v.category) = st.map (fun v => v.category) := by rw [List.map_map]; exact List.map_congr_left fun v _ => cv_cat X v
  have hcn := cnB hy hts (hC.2.2.2.2.2.2.2.2.2.2.2.2.2.2.2.2.2.2.2.2 _ hk1) hd ⟨r1, r2⟩ (n1 := b2.1) (n2 := b2.2)
  rw [hk4] at hcn
  have hrun := va_runIN (index := ix) (b := xa X o) (As := cvS X as) (rest := cvS X st) (e := e) (R := Rm) (below := below) (meth := meth) (H := H) (locs := locs) (cells := cells) (slots := slots) (g := F0 m pc la (cvS X (as.reverse ++ .ref o :: st))) (own := (yn y).cls) (nL := yl y) (n := ya y2) ⟨hC.1, hC.2.1, hC.2.2.2.1, hC.2.2.2.2.1, hts⟩ hm
    ⟨hcn, hk3, hts _ hk2⟩ (preO (args := .ref o :: as) hC hW hS) rfl (by rw [List.length_map]; exact hn) hl.1 (by show cvS X _ = _; simp [cvS, List.map_reverse]; rfl) (by show 2 * 0 + ((cvS X st).map _).sum ≤ 8; rw [hcat]; omega) h ⟨by omega, by omega⟩
  refine run_go hrun hS (fun r S' I' L' R' H1 locs1 hq hW1 hS1 => ?_)
  rw [cvS_ret]
  exact kk r S' I' L' R' hq p e Rm s m args below meth c0 H1 locs1 (cells + b2.1) (slots + b2.2) la hC ⟨r1, r2, by show cells + b2.1 + (b.1 - b2.1) ≤ _; omega, by show slots + b2.2 + (b.2 - b2.2) ≤ _; omega⟩ hW1 hS1 hl
/-- Object.<init>() -/
theorem s_objInit {o ix : Nat} (h : decode (yb y) pc = .ok (.invokespecial ix, 3)) (f : Cond.methodLink (yn y).cls ix objectInit ∈ GW ∧ Cond.instanceMethod objectInit ∈ GW ∧ Cond.code objectInit ⟨#[0xb1]⟩ 1 none ∈ GW) (hd : 0 < d) (hw : (st.map fun v => v.category).sum ≤ 8) (kk : SW X d y b (pc + 3) ls st S I L R K) : SW X d y b pc ls (.ref o :: st) S I L R K := by
  intro p e Rm s m args below meth c0 H locs cells slots la hC hRm hW hS hl
  obtain ⟨r1, r2, r3, r4⟩ := hRm
  have hts := hC.2.2.2.2.2.1
  have hcat : (cvS X st).map (fun v => v.category) = st.map (fun v => v.category) := by rw [List.map_map]; exact List.map_congr_left fun v _ => cv_cat X v
  refine W.objInit hC.1 hC.2.1 hC.2.2.2.2.1 (hts _ f.1) (hts _ f.2.1) (hts _ f.2.2) rfl (by rw [hC.2.2.2.1]; exact hl.1) rfl h (by omega) (by show 2 * 0 + ((cvS X st).map _).sum + 12 ≤ _; rw [hcat]; omega) ?_
  exact kk p e Rm s m args below meth c0 H locs cells slots la hC ⟨r1, r2, r3, r4⟩ hW hS hl
end ROWS3
