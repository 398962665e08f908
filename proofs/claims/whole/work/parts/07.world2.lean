theorem gws {ws : List Cond} (ps : List Nat) (hp : ws = ps.filterMap (fun i => lw_tbl[i]?)) (h : ws.all goodWord = true) : ∀ w ∈ ws, w ∈ GW := by
  intro w hw
  have h1 := List.all_eq_true.mp h w hw
  rw [hp] at hw
  obtain ⟨i, -, hi⟩ := List.mem_filterMap.mp hw
  exact List.mem_filter.mpr ⟨List.mem_of_getElem? hi, h1⟩
def ClsOK (c : Nat) (C : String) (T : u_T) (N : Nat) (ty : Nat → FieldType) : Prop := vwCl[c]? = some (C, T, N) ∧ (∀ w ∈ u_ws C T N, w ∈ GW) ∧ (∀ k, k < N → parseFieldDescriptor (T k).2.2.1 = some (ty k)) ∧ (∀ a, a < N → ∀ b, b < N → a ≠ b → (T a).2.1 ≠ (T b).2.1) ∧ nfl c = N ∧ c < 9
def tkOK (t : FieldType) (tk : Nat) : Prop := match tk with
  | 0 => t = .int
  | 1 => t = .long
  | 2 => (∃ n, t = .object n) ∨ ∃ u, t = .array u
  | _ => t = .boolean
/-- a field that an instruction of class own names by pool entry ix: place k of class c -/
def FldP (own : String) (ix c k fin tk : Nat) : Prop := ∃ (C : String) (T : u_T) (N : Nat) (ty : Nat → FieldType), ClsOK c C T N ty ∧ k < N ∧ Cond.fieldLink own ix (T k).1 (T k).2.1 (T k).2.2.1 ∈ GW ∧ (T k).2.2.2 = decide (fin ≠ 0) ∧ (fin = 1 → (T k).1 = own) ∧ tkOK (ty k) tk ∧ fty c k = (if tk = 3 then 0 else tk)
section ROWS2
variable {X : En} {d : Nat} {y : MD} {b : Nat × Nat} {pc : Nat} {ls : List (Option Value)} {st : List Value} {S : Sh} {I : FI} {L : FL} {R : FR} {K : Kt}
theorem s_get {o c n k ix fin tk : Nat} (h : decode (yb y) pc = .ok (.getfield ix, 3)) (f : FldP (yn y).cls ix c k fin tk) (ho : S[o]? = some (c, n)) (kk : SW X d y b (pc + 3) ls (aval (fty c k) (I o k) (L o k) (R o k) :: st) S I L R K) : SW X d y b pc ls (.ref o :: st) S I L R K := by
  intro p e Rm s m args below meth c0 H locs cells slots la hC hR hW hS hl
  obtain ⟨C, T, N, ty, ⟨hc, hin, hty, hnm, hN, h9⟩, hk, hlk, -⟩ := f
  have he := wsO_get X ho I L R
  rw [cellO_c X h9] at he
  exact va_get hC.1 hC.2.1 hC.2.2.2.2.2.1 hin hC.2.2.2.2.1 hC.2.2.2.2.2.2.2.2.1 hW.2.2 o he hc k hk (hC.2.2.2.2.2.1 _ hlk) (fun x h => h) (v := cv X (aval (fty c k) (I o k) (L o k) (R o k))) (by rw [cellF_get X (by rw [hN]; exact hk), cv_aval]) h (kk p e Rm s m args below meth c0 H locs cells slots la hC hR hW hS hl)
theorem s_getI {o c n k ix fin tk : Nat} {x : Int32} (h : decode (yb y) pc = .ok (.getfield ix, 3)) (f : FldP (yn y).cls ix c k fin tk) (ho : S[o]? = some (c, n)) (ht : fty c k = 0) (hx : I o k = x) (kk : SW X d y b (pc + 3) ls (.int x :: st) S I L R K) : SW X d y b pc ls (.ref o :: st) S I L R K := by
  refine s_get h f ho ?_
  subst hx
  unfold aval
  rw [if_pos ht]
  exact kk
theorem s_getL {o c n k ix fin tk : Nat} {x : Int64} (h : decode (yb y) pc = .ok (.getfield ix, 3)) (f : FldP (yn y).cls ix c k fin tk) (ho : S[o]? = some (c, n)) (ht : fty c k = 1) (hx : L o k = x) (kk : SW X d y b (pc + 3) ls (.long x :: st) S I L R K) : SW X d y b pc ls (.ref o :: st) S I L R K := by
  refine s_get h f ho ?_
  subst hx
  unfold aval
  rw [if_neg (by rw [ht]; decide), if_pos ht]
  exact kk
theorem s_getR {o c n k ix fin tk r : Nat} (h : decode (yb y) pc = .ok (.getfield ix, 3)) (f : FldP (yn y).cls ix c k fin tk) (ho : S[o]? = some (c, n)) (ht : fty c k = 2) (hx : R o k = some r) (kk : SW X d y b (pc + 3) ls (.ref r :: st) S I L R K) : SW X d y b pc ls (.ref o :: st) S I L R K := by
  refine s_get h f ho ?_
  unfold aval
  rw [if_neg (by rw [ht]; decide), if_neg (by rw [ht]; decide), hx]
  exact kk
theorem worldSet {X : En} {S : Sh} {o : Nat} {q : Nat × Nat} {e : va_E} {I I' : FI} {L L' : FL} {R R' : FR} {H H1 : Heap} (hW : World X S I L R H) (h : S[o]? = some q) (he : e = cellO X q (I' o) (L' o) (R' o)) (ho : ∀ a, a ≠ o → I' a = I a ∧ L' a = L a ∧ R' a = R a) (hz : H1.size = H.size) (hP : va_P (xD X) vwCl ((wsO X S I L R).set o (xa X o, e)) H1) : World X S I' L' R' H1 := by
  rw [wsO_set X h he ho] at hP
  exact ⟨hz.trans hW.1, hW.2.1, hP⟩
theorem fldAt {c n o : Nat} {H : Heap} {X : En} {S : Sh} {I : FI} {L : FL} {R : FR} (ho : S[o]? = some (c, n)) (h9 : c < 9) : (wsO X S I L R)[o]? = some (xa X o, .inr (c, cellF X c (I o) (L o) (R o))) := by
  have h := wsO_get X ho I L R
  rwa [cellO_c X h9] at h
/-- a store into a field: what the machine does, and the world behind it -/
theorem s_put0 {o c n k ix tk : Nat} {v : Value} {I' : FI} {L' : FL} {R' : FR} (h : decode (yb y) pc = .ok (.putfield ix, 3)) (f : FldP (yn y).cls ix c k 0 tk) (ho : S[o]? = some (c, n)) (hn : ∀ t, tkOK t tk → narrow t (cv X v) = cv X v ∧ fits t (cv X v) = true)
    (hv : cv X v = fval X (fty c k) (I' o k) (L' o k) (R' o k)) (h1 : ∀ a, a ≠ o → I' a = I a ∧ L' a = L a ∧ R' a = R a) (h2 : ∀ j, j ≠ k → I' o j = I o j ∧ L' o j = L o j ∧ R' o j = R o j)
    (kk : SW X d y b (pc + 3) ls st S I' L' R' K) : SW X d y b pc ls (v :: .ref o :: st) S I L R K := by
  intro p e Rm s m args below meth c0 H locs cells slots la hC hR hW hS hl
  obtain ⟨C, T, N, ty, ⟨hc, hin, hty, hnm, hN, h9⟩, hk, hlk, hfin, -, htk, hft⟩ := f
  have hts := hC.2.2.2.2.2.1
  have hown := hC.2.2.2.2.1
  have hKn := hC.2.2.2.2.2.2.2.2.1
  have he := fldAt (H := H) (X := X) (I := I) (L := L) (R := R) ho h9
  have hD := wsO_D X hW.2.1 I L R
  have hap := va_apart (own := (yn y).cls) hts hin ty hty hnm hKn hc
  obtain ⟨n1, n2⟩ := hn _ htk
  obtain ⟨r, g1, cell, q1, q2, q3, q4⟩ := hW.2.2 o _ he
  have hr : r = (C, T, N) := Option.some.inj (g1.symm.trans hc)
  subst hr
  obtain ⟨hSl, hfc, kC, hkC, hkind⟩ := hKn.1 c _ hc
  obtain ⟨cf, kf, fi, fd, hi, hsl⟩ := hSl k hk
  have hlay := hts _ (hin _ (u_in_lay hk))
  unfold u_lay at hlay
  rw [if_neg (by rw [hfin]; decide)] at hlay
  have h6 := u_store hfc hkC hkind hlay hi (hty k hk) n1 n2
  have hlen : k < (cellF X c (I o) (L o) (R o)).length := by rw [cellF_len, hN]; exact hk
  refine W.putK hC.1 hC.2.1 (f := fd) ⟨hown, hts _ hlk, ⟨_, _, _, hi⟩, (u_facts hfc hkC (u_lays hts hin hk) hi).1⟩ (by rw [q2]; exact h6) q1 q3 (by rw [hsl]; exact k2_hasslot (q4 k hk)) rfl rfl h fun H' e1 e2 e3 => ?_
  rw [hsl] at e1 ⊢
  refine kk p e Rm s m args below meth c0 H' _ cells slots la hC hR (worldSet (e := .inr (c, (cellF X c (I o) (L o) (R o)).set k (cv X v))) hW ho ?_ h1 e2 ?_) (hS.put e2 e3 (hD.2 o _ he)) hl
  · rw [cellO_c X h9, cellF_set X hv h2]
  · exact hW.2.2.set hD he ⟨_, hc, t_OB.to ⟨_, e1, q2, q3, t_set q4 hap hk (cv X v)⟩ (fun j _ => vp_updV_set hlen (cv X v) j)⟩ e3
/-- the same for a final field, in its own class's constructor -/
theorem s_putF0 {o c n k ix tk : Nat} {v : Value} {I' : FI} {L' : FL} {R' : FR} (h : decode (yb y) pc = .ok (.putfield ix, 3)) (f : FldP (yn y).cls ix c k 1 tk) (hyn : (yn y).name = "<init>") (ho : S[o]? = some (c, n)) (hn : ∀ t, tkOK t tk → narrow t (cv X v) = cv X v ∧ fits t (cv X v) = true)
    (hv : cv X v = fval X (fty c k) (I' o k) (L' o k) (R' o k)) (h1 : ∀ a, a ≠ o → I' a = I a ∧ L' a = L a ∧ R' a = R a) (h2 : ∀ j, j ≠ k → I' o j = I o j ∧ L' o j = L o j ∧ R' o j = R o j)
    (kk : SW X d y b (pc + 3) ls st S I' L' R' K) : SW X d y b pc ls (v :: .ref o :: st) S I L R K := by
  intro p e Rm s m args below meth c0 H locs cells slots la hC hR hW hS hl
  obtain ⟨C, T, N, ty, ⟨hc, hin, hty, hnm, hN, h9⟩, hk, hlk, hfin, hdecl, htk, hft⟩ := f
  have hts := hC.2.2.2.2.2.1
  have hown := hC.2.2.2.2.1
  have hKn := hC.2.2.2.2.2.2.2.2.1
  have hin2 : meth.name = "<init>" := hC.2.2.2.2.2.2.2.1.trans hyn
  have he := fldAt (H := H) (X := X) (I := I) (L := L) (R := R) ho h9
  have hD := wsO_D X hW.2.1 I L R
  have hap := va_apart (own := (yn y).cls) hts hin ty hty hnm hKn hc
  obtain ⟨n1, n2⟩ := hn _ htk
  obtain ⟨r, g1, cell, q1, q2, q3, q4⟩ := hW.2.2 o _ he
  have hr : r = (C, T, N) := Option.some.inj (g1.symm.trans hc)
  subst hr
  obtain ⟨hSl, hfc, kC, hkC, hkind⟩ := hKn.1 c _ hc
  obtain ⟨cf, kf, fi, fd, hi, hsl⟩ := hSl k hk
  have hlay := hts _ (hin _ (u_in_lay hk))
  unfold u_lay at hlay
  rw [if_pos (by rw [hfin]; decide)] at hlay
  have hcf : m.cls = cf := by
    obtain ⟨_, _, c', _, _, _, -, -, hf', -, -, -, hown2, -⟩ := Cond.laysFinal_spec hlay
    have e1 : c' = cf := by have := hi.symm.trans hf'; simp at this; exact this.1.symm
    rw [hdecl rfl] at hown2
    rw [← e1]
    exact Option.some.inj (hown.symm.trans hown2)
  have h6 := u_fits hfc hkC hkind (Or.inr hlay) hi (hty k hk) n1 n2
  have hlen : k < (cellF X c (I o) (L o) (R o)).length := by rw [cellF_len, hN]; exact hk
  refine W.putFinK hC.1 hC.2.1 hown (hts _ hlk) hi (u_facts hfc hkC (u_lays hts hin hk) hi).1 hcf hin2 (by rw [q2]; exact h6) q1 q3 (by rw [hsl]; exact k2_hasslot (q4 k hk)) rfl rfl h fun H' e1 e2 e3 => ?_
  rw [hsl] at e1 ⊢
  refine kk p e Rm s m args below meth c0 H' _ cells slots la hC hR (worldSet (e := .inr (c, (cellF X c (I o) (L o) (R o)).set k (cv X v))) hW ho ?_ h1 e2 ?_) (hS.put e2 e3 (hD.2 o _ he)) hl
  · rw [cellO_c X h9, cellF_set X hv h2]
  · exact hW.2.2.set hD he ⟨_, hc, t_OB.to ⟨_, e1, q2, q3, t_set q4 hap hk (cv X v)⟩ (fun j _ => vp_updV_set hlen (cv X v) j)⟩ e3
theorem s_putI {o c n k ix : Nat} {x : Int32} (h : decode (yb y) pc = .ok (.putfield ix, 3)) (f : FldP (yn y).cls ix c k 0 0) (ho : S[o]? = some (c, n)) (ht : fty c k = 0) (kk : SW X d y b (pc + 3) ls st S (up2 I o k x) L R K) : SW X d y b pc ls (.int x :: .ref o :: st) S I L R K := by
  refine s_put0 h f ho (fun t ht => ?_) ?_ (fun a ha => ⟨up2_n I x ha, rfl, rfl⟩) (fun j hj => ⟨up2_nn I x (fun e => hj e.2), rfl, rfl⟩) kk
  · rw [show t = .int from ht]; exact ⟨rfl, rfl⟩
  · unfold fval; rw [if_pos ht, up2_oo]; rfl
theorem s_putZ {o c n k ix : Nat} {x : Int32} (h : decode (yb y) pc = .ok (.putfield ix, 3)) (f : FldP (yn y).cls ix c k 0 3) (ho : S[o]? = some (c, n)) (ht : fty c k = 0) (hx : x = 0 ∨ x = 1) (kk : SW X d y b (pc + 3) ls st S (up2 I o k x) L R K) : SW X d y b pc ls (.int x :: .ref o :: st) S I L R K := by
  refine s_put0 h f ho (fun t ht => ?_) ?_ (fun a ha => ⟨up2_n I x ha, rfl, rfl⟩) (fun j hj => ⟨up2_nn I x (fun e => hj e.2), rfl, rfl⟩) kk
  · rw [show t = .boolean from ht]
    rcases hx with rfl | rfl
    · exact ⟨(by decide : narrow .boolean (.int 0) = .int 0), (by decide : fits .boolean (.int 0) = true)⟩
    · exact ⟨(by decide : narrow .boolean (.int 1) = .int 1), (by decide : fits .boolean (.int 1) = true)⟩
  · unfold fval; rw [if_pos ht, up2_oo]; rfl
theorem s_putL {o c n k ix : Nat} {x : Int64} (h : decode (yb y) pc = .ok (.putfield ix, 3)) (f : FldP (yn y).cls ix c k 0 1) (ho : S[o]? = some (c, n)) (ht : fty c k = 1) (kk : SW X d y b (pc + 3) ls st S I (up2 L o k x) R K) : SW X d y b pc ls (.long x :: .ref o :: st) S I L R K := by
  refine s_put0 h f ho (fun t ht => ?_) ?_ (fun a ha => ⟨rfl, up2_n L x ha, rfl⟩) (fun j hj => ⟨rfl, up2_nn L x (fun e => hj e.2), rfl⟩) kk
  · rw [show t = .long from ht]; exact ⟨rfl, rfl⟩
  · unfold fval; rw [if_neg (by rw [ht]; decide), if_pos ht, up2_oo]; rfl
theorem s_putR {o c n k ix r : Nat} (h : decode (yb y) pc = .ok (.putfield ix, 3)) (f : FldP (yn y).cls ix c k 0 2) (ho : S[o]? = some (c, n)) (ht : fty c k = 2) (kk : SW X d y b (pc + 3) ls st S I L (up2 R o k (some r)) K) : SW X d y b pc ls (.ref r :: .ref o :: st) S I L R K := by
  refine s_put0 h f ho (fun t ht => ?_) ?_ (fun a ha => ⟨rfl, rfl, up2_n R (some r) ha⟩) (fun j hj => ⟨rfl, rfl, up2_nn R (some r) (fun e => hj e.2)⟩) kk
  · rcases ht with ⟨u, rfl⟩ | ⟨u, rfl⟩ <;> exact ⟨rfl, rfl⟩
  · unfold fval; rw [if_neg (by rw [ht]; decide), if_neg (by rw [ht]; decide), up2_oo]; rfl
theorem s_putFR {o c n k ix r : Nat} (h : decode (yb y) pc = .ok (.putfield ix, 3)) (f : FldP (yn y).cls ix c k 1 2) (hyn : (yn y).name = "<init>") (ho : S[o]? = some (c, n)) (ht : fty c k = 2) (kk : SW X d y b (pc + 3) ls st S I L (up2 R o k (some r)) K) : SW X d y b pc ls (.ref r :: .ref o :: st) S I L R K := by
  refine s_putF0 h f hyn ho (fun t ht => ?_) ?_ (fun a ha => ⟨rfl, rfl, up2_n R (some r) ha⟩) (fun j hj => ⟨rfl, rfl, up2_nn R (some r) (fun e => hj e.2)⟩) kk
  · rcases ht with ⟨u, rfl⟩ | ⟨u, rfl⟩ <;> exact ⟨rfl, rfl⟩
  · unfold fval; rw [if_neg (by rw [ht]; decide), if_neg (by rw [ht]; decide), up2_oo]; rfl
-- arrays
theorem s_iald {o n : Nat} {i : Int32} {x : Int32} (h : decode (yb y) pc = .ok (.iaload, 1)) (ho : S[o]? = some (9, n)) (hi : vp_in i n) (hx : I o i.toNatClampNeg = x) (kk : SW X d y b (pc + 1) ls (.int x :: st) S I L R K) : SW X d y b pc ls (.int i :: .ref o :: st) S I L R K := by
  intro p e Rm s m args below meth c0 H locs cells slots la hC hR hW hS hl
  subst hx
  exact va_iald hC.1 hC.2.1 hC.2.2.2.2.2.2.2.2.1 hW.2.2 o 0 (wsO_get X ho I L R) rfl hi h (kk p e Rm s m args below meth c0 H locs cells slots la hC hR hW hS hl)
theorem s_bald {o n : Nat} {i : Int32} {x : Int32} (h : decode (yb y) pc = .ok (.baload, 1)) (ho : S[o]? = some (10, n)) (hi : vp_in i n) (hx : I o i.toNatClampNeg = x) (kk : SW X d y b (pc + 1) ls (.int x :: st) S I L R K) : SW X d y b pc ls (.int i :: .ref o :: st) S I L R K := by
  intro p e Rm s m args below meth c0 H locs cells slots la hC hR hW hS hl
  subst hx
  exact va_zald hC.1 hC.2.1 hC.2.2.2.2.2.2.2.2.1 hW.2.2 o 1 (wsO_get X ho I L R) rfl hi h (kk p e Rm s m args below meth c0 H locs cells slots la hC hR hW hS hl)
def arrN (a : Nat) : String := match a with
  | 0 => RX5
  | 1 => RX4
  | _ => RX3
theorem tysX_q {a : Nat} (ha : a < 3) : (tysX X)[2 + a]? = some (xc X (2 + a), .object (arrN a)) := by
  match a, ha with
  | 0, _ => rfl
  | 1, _ => rfl
  | 2, _ => rfl
theorem s_aald {o a n r : Nat} {i : Int32} (h : decode (yb y) pc = .ok (.aaload, 1)) (ha : a < 3) (ho : S[o]? = some (11 + a, n)) (hi : vp_in i n) (hx : R o i.toNatClampNeg = some r) (kk : SW X d y b (pc + 1) ls (.ref r :: st) S I L R K) : SW X d y b pc ls (.int i :: .ref o :: st) S I L R K := by
  intro p e Rm s m args below meth c0 H locs cells slots la hC hR hW hS hl
  have he := wsO_get X ho I L R
  rw [cellO_q] at he
  refine va_aldq hC.1 hC.2.1 hC.2.2.2.2.2.2.2.2.1 hW.2.2 o (2 + a) he (tysX_q ha) hi h ?_
  rw [hx]
  exact kk p e Rm s m args below meth c0 H locs cells slots la hC hR hW hS hl
theorem s_alen {o a n : Nat} {v : Int32} (h : decode (yb y) pc = .ok (.arraylength, 1)) (ha : a < 5) (ho : S[o]? = some (9 + a, n)) (hv : Int32.ofNat n = v) (kk : SW X d y b (pc + 1) ls (.int v :: st) S I L R K) : SW X d y b pc ls (.ref o :: st) S I L R K := by
  intro p e Rm s m args below meth c0 H locs cells slots la hC hR hW hS hl
  have he := wsO_get X ho I L R
  have k0 := kk p e Rm s m args below meth c0 H locs cells slots la hC hR hW hS hl
  match a, ha with
  | 0, _ => exact va_alen hC.1 hC.2.1 hC.2.2.2.2.2.2.2.2.1 hW.2.2 o 0 he rfl hv h k0
  | 1, _ => exact va_alen hC.1 hC.2.1 hC.2.2.2.2.2.2.2.2.1 hW.2.2 o 1 he rfl hv h k0
  | 2, _ => exact va_alen hC.1 hC.2.1 hC.2.2.2.2.2.2.2.2.1 hW.2.2 o 2 he rfl hv h k0
  | 3, _ => exact va_alen hC.1 hC.2.1 hC.2.2.2.2.2.2.2.2.1 hW.2.2 o 3 he rfl hv h k0
  | 4, _ => exact va_alen hC.1 hC.2.1 hC.2.2.2.2.2.2.2.2.1 hW.2.2 o 4 he rfl hv h k0
theorem s_iast {o n : Nat} {i x : Int32} (h : decode (yb y) pc = .ok (.iastore, 1)) (ho : S[o]? = some (9, n)) (hi : vp_in i n) (kk : SW X d y b (pc + 1) ls st S (up2 I o i.toNatClampNeg x) L R K) : SW X d y b pc ls (.int x :: .int i :: .ref o :: st) S I L R K := by
  intro p e Rm s m args below meth c0 H locs cells slots la hC hR hW hS hl
  have he := wsO_get X ho I L R
  have hD := wsO_D X hW.2.1 I L R
  refine W.iast hC.1 hC.2.1 (hW.2.2 o _ he) ((hC.2.2.2.2.2.2.2.2.1.2 0 _ rfl).1 n (fun j => .int (I o j))) (fun q => by cases q) (by show ¬ (i < 0 ∨ (arrV _ _ _).slots.size ≤ _); rw [arrV_size]; exact hi) rfl rfl h fun H1 e1 z oq => ?_
  refine kk p e Rm s m args below meth c0 H1 _ cells slots la hC hR (worldSet (e := .inl (xc X 0, n, .inl (upd (I o) i.toNatClampNeg x))) hW ho ?_ (fun a ha => ⟨up2_n I x ha, rfl, rfl⟩) z (hW.2.2.set hD he ?_ oq)) (hS.put z oq (hD.2 o _ he)) hl
  · rw [cellO_i, up2_o]; rfl
  · show H1[xa X o]? = some (vp_cell _ _)
    rw [e1]
    show some ((vp_cell (xc X 0) (n, .inl (I o))).setSlot _ _) = _
    rw [vp_cell_i, vp_cell_i, arrV_store]
    congr 2
    funext q
    by_cases hq : q = i.toNatClampNeg
    · subst hq; simp [updV, upd]
    · simp [updV, upd, hq]
theorem s_bast {o n : Nat} {i x : Int32} (h : decode (yb y) pc = .ok (.bastore, 1)) (ho : S[o]? = some (10, n)) (hi : vp_in i n) (hx : x = 0 ∨ x = 1) (kk : SW X d y b (pc + 1) ls st S (up2 I o i.toNatClampNeg x) L R K) : SW X d y b pc ls (.int x :: .int i :: .ref o :: st) S I L R K := by
  intro p e Rm s m args below meth c0 H locs cells slots la hC hR hW hS hl
  have he := wsO_get X ho I L R
  have hD := wsO_D X hW.2.1 I L R
  have hnr : narrow .boolean (.int x) = .int x := by rcases hx with rfl | rfl <;> decide
  refine W.zast hC.1 hC.2.1 (hW.2.2 o _ he) ((hC.2.2.2.2.2.2.2.2.1.2 1 _ rfl).1 n (fun j => .int (I o j))) (fun q => by cases q) (by show ¬ (i < 0 ∨ (arrV _ _ _).slots.size ≤ _); rw [arrV_size]; exact hi) rfl rfl h fun H1 e1 z oq => ?_
  rw [hnr] at e1
  refine kk p e Rm s m args below meth c0 H1 _ cells slots la hC hR (worldSet (e := .inl (xc X 1, n, .inl (upd (I o) i.toNatClampNeg x))) hW ho ?_ (fun a ha => ⟨up2_n I x ha, rfl, rfl⟩) z (hW.2.2.set hD he ?_ oq)) (hS.put z oq (hD.2 o _ he)) hl
  · rw [cellO_z, up2_o]; rfl
  · show H1[xa X o]? = some (vp_cell _ _)
    rw [e1]
    show some ((vp_cell (xc X 1) (n, .inl (I o))).setSlot _ _) = _
    rw [vp_cell_i, vp_cell_i, arrV_store]
    congr 2
    funext q
    by_cases hq : q = i.toNatClampNeg
    · subst hq; simp [updV, upd]
    · simp [updV, upd, hq]
theorem arrN_c {a : Nat} (ha : a < 3) : ∃ r : vw_C, vwCl[5 - a]? = some r ∧ r.1 = arrN a := by
  match a, ha with
  | 0, _ => exact ⟨_, rfl, rfl⟩
  | 1, _ => exact ⟨_, rfl, rfl⟩
  | 2, _ => exact ⟨_, rfl, rfl⟩
theorem s_aast {o a n v n2 : Nat} {i : Int32} (h : decode (yb y) pc = .ok (.aastore, 1)) (ha : a < 3) (ho : S[o]? = some (11 + a, n)) (hv : S[v]? = some (5 - a, n2)) (hi : vp_in i n) (kk : SW X d y b (pc + 1) ls st S I L (up2 R o i.toNatClampNeg (some v)) K) : SW X d y b pc ls (.ref v :: .int i :: .ref o :: st) S I L R K := by
  intro p e Rm s m args below meth c0 H locs cells slots la hC hR hW hS hl
  have he := wsO_get X ho I L R
  rw [cellO_q] at he
  have hev := fldAt (H := H) (X := X) (I := I) (L := L) (R := R) hv (by omega)
  have hD := wsO_D X hW.2.1 I L R
  have hlt : i.toNatClampNeg < n := Nat.not_le.mp fun q => hi (Or.inr q)
  have h0 : ¬ i < 0 := fun q => hi (Or.inl q)
  obtain ⟨r, hr, hrn⟩ := arrN_c ha
  have hKn := hC.2.2.2.2.2.2.2.2.1
  obtain ⟨r', hr', cellV, g1, g2, g3, -⟩ := hW.2.2 v _ hev
  have hcls := (hKn.1 (5 - a) r hr).2
  obtain ⟨kA, comp, k1, k2, k3, -⟩ := (hKn.2 (2 + a) _ (tysX_q ha)).2
  have hcomp : comp = (xD X).1 (5 - a) := by
    have hz := hcls.1
    rw [hrn] at hz
    exact Option.some.inj (k3.symm.trans hz)
  subst hcomp
  obtain ⟨kC, hkC, -⟩ := hcls.2
  refine W.aast hC.1 hC.2.1 (hW.2.2 o _ he) (fun q h => by cases h) (fun h => by cases h) k1 k2 rfl hkC ⟨h0, by show _ < (arrV _ _ _).slots.size; rw [arrV_size]; exact hlt⟩ g1 (fun q h => by rw [g3] at h; cases h) (by rw [g2]; exact hkC) (by rw [g2]; exact va_assign hcls) rfl rfl h fun H1 e1 z oq => ?_
  refine kk p e Rm s m args below meth c0 H1 _ cells slots la hC hR (worldSet (e := .inl (xc X (2 + a), n, .inr (.inr (.inr (.inr (va_up (fun j => (R o j).map (xa X)) i.toNatClampNeg (some (xa X v)))))))) hW ho ?_ (fun a ha => ⟨rfl, rfl, up2_n R (some v) ha⟩) z (hW.2.2.set hD he ?_ oq)) (hS.put z oq (hD.2 o _ he)) hl
  · rw [cellO_q, up2_o]
    congr 6
    refine congrArg Sum.inr (funext fun j => ?_)
    by_cases hj : j = i.toNatClampNeg
    · simp [va_up, hj]
    · simp [va_up, hj]
  · show H1[xa X o]? = some (vp_cell _ _)
    rw [e1]
    show some ((vp_cell (xc X (2 + a)) (n, .inr (.inr (.inr (.inr (fun j => (R o j).map (xa X))))))).setSlot _ _) = _
    rw [vp_cell_q, vp_cell_q, arrV_store]
    congr 2
    funext q
    by_cases hq : q = i.toNatClampNeg
    · subst hq; simp [updV, va_up, va_rf]
    · simp [updV, va_up, hq]
end ROWS2
