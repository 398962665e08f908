def ftyL : List (List Nat) := [[2, 2, 2, 0], [2, 0, 0, 0], [2, 0, 2, 0, 0, 0, 0, 0], [2, 0, 0], [2, 2, 2, 0], [0, 0, 0, 0, 0], [2, 2, 2], [2, 2, 2, 2, 2, 2, 2, 2, 2, 2, 0, 0, 0], [0, 2, 2, 0, 0, 2, 0, 0, 2, 2, 0, 2, 2, 0, 0, 0, 0, 0, 0, 0, 0, 0, 0, 0, 0, 1, 0, 0, 0, 2, 0, 2, 2, 2, 0, 0, 0, 0, 2, 2, 2, 2]]
/-! THE WORLD: all objects of the class and of the reference in one list of shapes S (kind, length), their contents in three functions: ints I, longs L, references R (object, place). SW: a method's walk, said over that world alone. -/
abbrev MD : Type := MethodName × ByteArray × Nat × Option FieldType × Nat
abbrev En : Type := Launch × va_G × (Nat → ClassId) × Nat × (Nat → Nat)
abbrev Sh : Type := List (Nat × Nat)
abbrev FI : Type := Nat → Nat → Int32
abbrev FL : Type := Nat → Nat → Int64
abbrev FR : Type := Nat → Nat → Option Nat
abbrev xl (X : En) : Launch := X.1
abbrev xD (X : En) : va_G := X.2.1
abbrev xc (X : En) : Nat → ClassId := X.2.2.1
abbrev xb (X : En) : Nat := X.2.2.2.1
abbrev xe (X : En) : Nat → Nat := X.2.2.2.2
abbrev yn (y : MD) : MethodName := y.1
abbrev yb (y : MD) : ByteArray := y.2.1
abbrev yl (y : MD) : Nat := y.2.2.1
abbrev yr (y : MD) : Option FieldType := y.2.2.2.1
abbrev ya (y : MD) : Nat := y.2.2.2.2
/-- the address of object o; from a million on: cells that lie outside (texts, tables) -/
def xa (X : En) (o : Nat) : Nat := if o < 1000000 then xb X + o else xe X (o - 1000000)
def cv (X : En) (v : Value) : Value := match v with
  | .ref o => .ref (xa X o)
  | v => v
theorem cv_cat (X : En) (v : Value) : (cv X v).category = v.category := by cases v <;> rfl
theorem xa_lt (X : En) {o : Nat} (h : o < 1000000) : xa X o = xb X + o := if_pos h
abbrev cvS (X : En) (st : List Value) : List Value := st.map (cv X)
def up2 {α : Type} (f : Nat → Nat → α) (o k : Nat) (x : α) : Nat → Nat → α := fun a j => if a = o then (if j = k then x else f o j) else f a j
theorem up2_o {α : Type} (f : Nat → Nat → α) (o k : Nat) (x : α) : up2 f o k x o = fun j => if j = k then x else f o j := by funext j; simp [up2]
theorem up2_n {α : Type} (f : Nat → Nat → α) {o k a : Nat} (x : α) (h : a ≠ o) : up2 f o k x a = f a := by funext j; simp [up2, h]
theorem up2_oo {α : Type} (f : Nat → Nat → α) (o k : Nat) (x : α) : up2 f o k x o k = x := by simp [up2]
theorem up2_nn {α : Type} (f : Nat → Nat → α) {o k a j : Nat} (x : α) (h : ¬ (a = o ∧ j = k)) : up2 f o k x a j = f a j := by
  unfold up2
  by_cases h1 : a = o
  · subst h1
    have h2 : ¬ j = k := fun e => h ⟨rfl, e⟩
    simp [h2]
  · simp [h1]
def fty (c k : Nat) : Nat := (ftyL.getD c []).getD k 0
def nfl (c : Nat) : Nat := (ftyL.getD c []).length
def fval (X : En) (t : Nat) (i : Int32) (l : Int64) (r : Option Nat) : Value := if t = 0 then .int i else if t = 1 then .long l else va_rf (r.map (xa X))
def aval (t : Nat) (i : Int32) (l : Int64) (r : Option Nat) : Value := if t = 0 then .int i else if t = 1 then .long l else va_rf r
theorem cv_rf (X : En) (r : Option Nat) : cv X (va_rf r) = va_rf (r.map (xa X)) := by cases r <;> rfl
theorem cv_aval (X : En) (t : Nat) (i : Int32) (l : Int64) (r : Option Nat) : cv X (aval t i l r) = fval X t i l r := by
  unfold aval fval
  by_cases h : t = 0
  · rw [if_pos h, if_pos h]; rfl
  · rw [if_neg h, if_neg h]
    by_cases h1 : t = 1
    · rw [if_pos h1, if_pos h1]; rfl
    · rw [if_neg h1, if_neg h1]; exact cv_rf X r
def cellF (X : En) (c : Nat) (i : Nat → Int32) (l : Nat → Int64) (r : Nat → Option Nat) : List Value := (List.range (nfl c)).map (fun k => fval X (fty c k) (i k) (l k) (r k))
def cellO (X : En) (q : Nat × Nat) (i : Nat → Int32) (l : Nat → Int64) (r : Nat → Option Nat) : va_E :=
  if q.1 < 9 then .inr (q.1, cellF X q.1 i l r)
  else .inl (xc X (q.1 - 9), q.2, if q.1 < 11 then .inl i else .inr (.inr (.inr (.inr (fun j => (r j).map (xa X))))))
theorem cellO_c (X : En) {c n : Nat} (h : c < 9) (i : Nat → Int32) (l : Nat → Int64) (r : Nat → Option Nat) : cellO X (c, n) i l r = .inr (c, cellF X c i l r) := if_pos h
theorem cellO_i (X : En) (n : Nat) (i : Nat → Int32) (l : Nat → Int64) (r : Nat → Option Nat) : cellO X (9, n) i l r = .inl (xc X 0, n, .inl i) := rfl
theorem cellO_z (X : En) (n : Nat) (i : Nat → Int32) (l : Nat → Int64) (r : Nat → Option Nat) : cellO X (10, n) i l r = .inl (xc X 1, n, .inl i) := rfl
theorem cellO_q (X : En) (a n : Nat) (i : Nat → Int32) (l : Nat → Int64) (r : Nat → Option Nat) : cellO X (11 + a, n) i l r = .inl (xc X (2 + a), n, .inr (.inr (.inr (.inr (fun j => (r j).map (xa X)))))) := by
  unfold cellO
  rw [if_neg (by show ¬ 11 + a < 9; omega), if_neg (by show ¬ 11 + a < 11; omega)]
  rw [show (11 + a, n).1 - 9 = 2 + a from by show 11 + a - 9 = _; omega]
theorem cellF_get (X : En) {c k : Nat} (h : k < nfl c) (i : Nat → Int32) (l : Nat → Int64) (r : Nat → Option Nat) : (cellF X c i l r)[k]? = some (fval X (fty c k) (i k) (l k) (r k)) := by
  unfold cellF
  rw [List.getElem?_map, List.getElem?_range h]
  rfl
theorem cellF_len (X : En) (c : Nat) (i : Nat → Int32) (l : Nat → Int64) (r : Nat → Option Nat) : (cellF X c i l r).length = nfl c := by simp [cellF]
theorem cellF_set (X : En) {c k : Nat} {i i' : Nat → Int32} {l l' : Nat → Int64} {r r' : Nat → Option Nat} {v : Value} (hv : v = fval X (fty c k) (i' k) (l' k) (r' k)) (h : ∀ j, j ≠ k → i' j = i j ∧ l' j = l j ∧ r' j = r j) : (cellF X c i l r).set k v = cellF X c i' l' r' := by
  apply List.ext_getElem?
  intro j
  rw [List.getElem?_set]
  by_cases hj : k = j
  · subst hj
    by_cases hk : k < nfl c
    · rw [if_pos rfl, if_pos (by rw [cellF_len]; exact hk), cellF_get X hk, hv]
    · rw [if_pos rfl, if_neg (by rw [cellF_len]; exact hk)]
      exact (List.getElem?_eq_none (by rw [cellF_len]; omega)).symm
  · rw [if_neg hj]
    by_cases hk : j < nfl c
    · obtain ⟨h1, h2, h3⟩ := h j (fun e => hj e.symm)
      rw [cellF_get X hk, cellF_get X hk, h1, h2, h3]
    · rw [List.getElem?_eq_none (by rw [cellF_len]; omega), List.getElem?_eq_none (by rw [cellF_len]; omega)]
def wsO (X : En) (S : Sh) (I : FI) (L : FL) (R : FR) : va_W := (List.range S.length).map (fun o => (xa X o, cellO X (S.getD o (99, 0)) (I o) (L o) (R o)))
theorem wsO_get (X : En) {S : Sh} {o : Nat} {q : Nat × Nat} (h : S[o]? = some q) (I : FI) (L : FL) (R : FR) : (wsO X S I L R)[o]? = some (xa X o, cellO X q (I o) (L o) (R o)) := by
  have hl : o < S.length := (List.getElem?_eq_some_iff.mp h).1
  unfold wsO
  rw [List.getElem?_map, List.getElem?_range hl]
  simp [List.getD, h]
theorem wsO_out (X : En) {S : Sh} {o : Nat} (h : ¬ o < S.length) (I : FI) (L : FL) (R : FR) : (wsO X S I L R)[o]? = none := by
  apply List.getElem?_eq_none
  simp [wsO]
  omega
theorem wsO_set (X : En) {S : Sh} {o : Nat} {q : Nat × Nat} {e : va_E} {I I' : FI} {L L' : FL} {R R' : FR} (h : S[o]? = some q) (he : e = cellO X q (I' o) (L' o) (R' o)) (ho : ∀ a, a ≠ o → I' a = I a ∧ L' a = L a ∧ R' a = R a) : (wsO X S I L R).set o (xa X o, e) = wsO X S I' L' R' := by
  have hl : o < S.length := (List.getElem?_eq_some_iff.mp h).1
  apply List.ext_getElem?
  intro j
  rw [List.getElem?_set]
  by_cases hj : o = j
  · subst hj
    rw [if_pos rfl, if_pos (by simp [wsO]; exact hl), wsO_get X h, he]
  · rw [if_neg hj]
    by_cases hk : j < S.length
    · obtain ⟨h1, h2, h3⟩ := ho j (fun e => hj e.symm)
      obtain ⟨q2, hq2⟩ : ∃ q2, S[j]? = some q2 := ⟨_, List.getElem?_eq_getElem hk⟩
      rw [wsO_get X hq2, wsO_get X hq2, h1, h2, h3]
    · rw [wsO_out X hk, wsO_out X hk]
theorem wsO_push (X : En) (S : Sh) (q : Nat × Nat) (I : FI) (L : FL) (R : FR) : wsO X (S ++ [q]) I L R = wsO X S I L R ++ [(xa X S.length, cellO X q (I S.length) (L S.length) (R S.length))] := by
  apply List.ext_getElem?
  intro j
  have hlen : (wsO X S I L R).length = S.length := by simp [wsO]
  by_cases hk : j < S.length
  · rw [List.getElem?_append_left (by omega)]
    obtain ⟨q2, hq2⟩ : ∃ q2, S[j]? = some q2 := ⟨_, List.getElem?_eq_getElem hk⟩
    rw [wsO_get X hq2, wsO_get X (q := q2) (by rw [List.getElem?_append_left hk]; exact hq2)]
  · rw [List.getElem?_append_right (by omega), hlen]
    by_cases he : j = S.length
    · subst he
      rw [wsO_get X (q := q) (by simp)]
      simp
    · rw [wsO_out X (by simp; omega)]
      rw [List.getElem?_eq_none (by simp; omega)]
theorem wsO_D (X : En) {S : Sh} (hS : S.length ≤ 1000000) (I : FI) (L : FL) (R : FR) : va_D (fun q : Nat => xb X ≤ q) (wsO X S I L R) := by
  have key : ∀ (i : Nat) (p : Nat × va_E), (wsO X S I L R)[i]? = some p → p.1 = xb X + i := by
    intro i p hp
    by_cases hi : i < S.length
    · obtain ⟨q2, hq2⟩ : ∃ q2, S[i]? = some q2 := ⟨_, List.getElem?_eq_getElem hi⟩
      rw [wsO_get X hq2] at hp
      cases hp
      exact xa_lt X (by omega)
    · rw [wsO_out X hi] at hp
      cases hp
  refine ⟨fun i j p q hp hq h => ?_, fun k q hq => ?_⟩
  · rw [key i p hp, key j q hq] at h
    omega
  · show xb X ≤ q.1
    rw [key k q hq]
    omega
def World (X : En) (S : Sh) (I : FI) (L : FL) (R : FR) (H : Heap) : Prop := H.size = xb X + S.length ∧ S.length ≤ 1000000 ∧ va_P (xD X) vwCl (wsO X S I L R) H
/-- the tables' words that hold at every call -/
def GW : List Cond := lw_tbl.filter goodWord
theorem gw {w : Cond} (i : Nat) (h : lw_tbl[i]? = some w) (g : goodWord w = true) : w ∈ GW := List.mem_filter.mpr ⟨List.mem_of_getElem? h, g⟩
def wsY (y : MD) : List Cond := .code y.1 y.2.1 y.2.2.1 y.2.2.2.1 :: GW
abbrev xA (X : En) : Nat → Prop := fun q => xb X ≤ q
def tysX (X : En) : List (ClassId × FieldType) := [(xc X 0, .int), (xc X 1, .boolean), (xc X 2, .object RX5), (xc X 3, .object RX4), (xc X 4, .object RX3)]

def txtW : String := "fact ripe number day known apples falls ripens takes or and not "
def txtF : String := "falls 1 + ripe < 20 ; ripens 1 ; takes 1 ;"
def bytS : List (List Int32) := [[102, 97, 99, 116, 32, 114, 105, 112, 101, 32, 110, 117, 109, 98, 101, 114, 32, 100, 97, 121, 32, 107, 110, 111, 119, 110, 32, 97, 112, 112, 108, 101, 115, 32, 102, 97, 108, 108, 115, 32, 114, 105, 112, 101, 110, 115, 32, 116, 97, 107, 101, 115, 32, 111, 114, 32, 97, 110, 100, 32, 110, 111, 116, 32], [102, 97, 108, 108, 115, 32, 49, 32, 43, 32, 114, 105, 112, 101, 32, 60, 32, 50, 48, 32, 59, 32, 114, 105, 112, 101, 110, 115, 32, 49, 32, 59, 32, 116, 97, 107, 101, 115, 32, 49, 32, 59]]
def lenS : List Nat := [64, 42]
def aboveF (j : Nat) : Int32 := match j with
  | 0 => -1
  | 1 => 0
  | 2 => 0
  | 3 => 1
  | 4 => 2
  | _ => 0
/-- private members of nest mates that are called -/
def nestL : List (String × Nat × MethodName) := [(RX1, 27, yX5_init), (RX6, 54, yX7_held), (RX7, 31, yX5_init), (RX7, 62, yX4_init), (RX7, 63, yX3_init), (RX7, 9, yX0_init)]
/-- what lies outside the world, and stays: the two texts, the tables of statics -/
def Sta (X : En) (U : State) : Prop :=
  vk_R RX2 107 txtW (xe X 0) U ∧ vk_R RX7 73 txtF (xe X 1) U ∧ vk_S 2 lenS bytS (fun i => xe X i) (fun i => xe X (10 + i)) (xA X) U U.heap ∧
  va_Z "java/lang/String" "COMPACT_STRINGS" "Z" (.int 1) (xA X) U U.heap ∧ (va_Z "jdk/internal/util/Preconditions" "SIOOBE_FORMATTER" "Ljava/util/function/BiFunction;" .null (xA X) U U.heap ∨ va_Z "jdk/internal/util/Preconditions" "SIOOBE_FORMATTER" "Ljava/util/function/BiFunction;" (.ref (xe X 30)) (xA X) U U.heap) ∧
  va_Z RX5 "ABOVE" "[I" (.ref (xe X 20)) (xA X) U U.heap ∧ va_T .int (xe X 20) 6 (fun j => .int (aboveF j)) (xA X) U U.heap ∧ va_AO RX3 U ∧ va_AO RX4 U ∧ va_AO RX5 U ∧ ∀ q ∈ nestL, va_Nw (.methodLinkNest q.1 q.2.1 q.2.2 "ApplesFall") U
theorem Sta.go {X : En} {s U : State} (hW : s.WarmedH U.vm) (hh : ∀ q : Nat, q < s.heap.size → ¬ xA X q → U.heap[q]? = s.heap[q]?) (h : Sta X s) : Sta X U := by
  obtain ⟨h1, h2, h3, h4, h5, h6, h7, h8, h9, h10, h11⟩ := h
  have ha := hW.alike
  exact ⟨h1.warm hW, h2.warm hW, (vk_S.moved ha h3).kept hh, (va_Z.moved ha h4).kept hh, h5.imp (fun h => (va_Z.moved ha h).kept hh) (fun h => (va_Z.moved ha h).kept hh), (va_Z.moved ha h6).kept hh, (va_T.moved ha h7).kept hh, va_AO.moved ha h8, va_AO.moved ha h9, va_AO.moved ha h10, fun q hq => va_Nw.warmM hW (h11 q hq)⟩
/-- what a method's walk knows of the machine -/
def Cx (X : En) (y : MD) (p : Program) (s : State) (m : MethodId) (args : Array Value) (meth : Method) (c : Code) : Prop :=
  p.tables.exec = Jvm.exec ∧ c.code = yb y ∧ meth.sig.returnType = yr y ∧ c.maxLocals = yl y ∧ s.vm.findClass (yn y).cls = some m.cls ∧ (∀ w ∈ GW, w.before args s = true) ∧ meth.locks = false ∧ meth.name = (yn y).name ∧ va_K (xD X) vwCl (tysX X) s ∧ xb X ≤ s.heap.size ∧ Sta X s
/-- the locals, by their numbers -/
def lH (X : En) (la : Array Slot) (n : Nat) (ls : List (Option Value)) : Prop := la.size = n ∧ lv_wf la ∧ ls.length = n ∧ ∀ (i : Nat) (v : Value), ls[i]? = some (some v) → la[i]? = some (.val (cv X v))
def lvOf (X : En) (ls : List (Option Value)) : List (Nat × Value) := (List.range ls.length).filterMap (fun i => (ls.getD i none).map (fun v => (i, cv X v)))
theorem lvOf_mem {X : En} {ls : List (Option Value)} {i : Nat} {v : Value} : (i, v) ∈ lvOf X ls ↔ ∃ w, ls[i]? = some (some w) ∧ v = cv X w := by
  unfold lvOf
  rw [List.mem_filterMap]
  constructor
  · rintro ⟨j, hj, h⟩
    rw [Option.map_eq_some_iff] at h
    obtain ⟨w, hw, he⟩ := h
    cases he
    refine ⟨w, ?_, rfl⟩
    rw [List.getD_eq_getElem?_getD] at hw
    cases hx : ls[i]? with
    | none => rw [hx] at hw; cases hw
    | some o => rw [hx] at hw; rw [show o = some w from hw]
  · rintro ⟨w, hw, rfl⟩
    refine ⟨i, List.mem_range.mpr (List.getElem?_eq_some_iff.mp hw).1, ?_⟩
    rw [List.getD_eq_getElem?_getD, hw]
    rfl
theorem lH.has {X : En} {la : Array Slot} {n : Nat} {ls : List (Option Value)} (h : lH X la n ls) : lv_has la n (lvOf X ls) := by
  refine ⟨h.1, h.2.1, fun q hq => ?_⟩
  obtain ⟨i, v⟩ := q
  obtain ⟨w, hw, rfl⟩ := lvOf_mem.mp hq
  exact h.2.2.2 i w hw
def okSt (ls : List (Option Value)) (i : Nat) : Bool := match i with
  | 0 => true
  | j + 1 => match ls[j]? with
    | some (some w) => w.category != 2
    | _ => true
def stL1 (ls : List (Option Value)) (i : Nat) (v : Value) : Option (List (Option Value)) := if okSt ls i = true then some (ls.set i (some v)) else none
def stL2 (ls : List (Option Value)) (i : Nat) (v : Value) : Option (List (Option Value)) := if okSt ls i = true then some ((ls.set i (some v)).set (i + 1) none) else none
theorem okSt_of {ls : List (Option Value)} {i j : Nat} {w : Value} (h : okSt ls i = true) (hj : j + 1 = i) (hw : ls[j]? = some (some w)) : (w.category == 2) = false := by
  subst hj
  have h : (match ls[j]? with | some (some w) => w.category != 2 | _ => true) = true := h
  rw [hw] at h
  simpa using h
theorem lH.set1 {X : En} {la : Array Slot} {n i : Nat} {ls ls' : List (Option Value)} {v : Value} {la0 : Array Slot} (h0 : lH X la0 n ls) (h : stL1 ls i v = some ls') (h' : lv_has la n ((i, cv X v) :: (lvOf X ls).filter (fun q => !(q.1 == i) && !(q.1 + 1 == i && q.2.category == 2)))) : lH X la n ls' := by
  unfold stL1 at h
  by_cases ok : okSt ls i = true
  · rw [if_pos ok] at h
    cases h
    refine ⟨h'.1, h'.2.1, by rw [List.length_set]; exact h0.2.2.1, fun j w hj => ?_⟩
    rw [List.getElem?_set] at hj
    by_cases e : i = j
    · rw [if_pos e] at hj
      subst e
      by_cases hl : i < ls.length
      · rw [if_pos hl] at hj
        cases hj
        exact h'.2.2 _ List.mem_cons_self
      · rw [if_neg hl] at hj
        cases hj
    · rw [if_neg e] at hj
      refine h'.2.2 (j, cv X w) (List.mem_cons_of_mem _ (List.mem_filter.mpr ⟨lvOf_mem.mpr ⟨w, hj, rfl⟩, ?_⟩))
      have e2 : (j == i) = false := by simpa using fun q => e q.symm
      show (!(j == i) && !(j + 1 == i && (cv X w).category == 2)) = true
      rw [e2, cv_cat]
      by_cases e3 : j + 1 = i
      · rw [okSt_of ok e3 hj]; simp
      · have e4 : (j + 1 == i) = false := by simpa using e3
        rw [e4]; rfl
  · rw [if_neg ok] at h
    cases h
theorem lH.set2 {X : En} {la : Array Slot} {n i : Nat} {ls ls' : List (Option Value)} {v : Value} {la0 : Array Slot} (h0 : lH X la0 n ls) (h : stL2 ls i v = some ls') (h' : lv_has la n ((i, cv X v) :: (lvOf X ls).filter (fun q => !(q.1 == i) && (!(q.1 == i + 1) && !(q.1 + 1 == i && q.2.category == 2))))) : lH X la n ls' := by
  unfold stL2 at h
  by_cases ok : okSt ls i = true
  · rw [if_pos ok] at h
    cases h
    refine ⟨h'.1, h'.2.1, by rw [List.length_set, List.length_set]; exact h0.2.2.1, fun j w hj => ?_⟩
    rw [List.getElem?_set] at hj
    by_cases e0 : i + 1 = j
    · rw [if_pos e0] at hj
      split at hj <;> cases hj
    · rw [if_neg e0, List.getElem?_set] at hj
      by_cases e : i = j
      · rw [if_pos e] at hj
        subst e
        by_cases hl : i < ls.length
        · rw [if_pos hl] at hj
          cases hj
          exact h'.2.2 _ List.mem_cons_self
        · rw [if_neg hl] at hj
          cases hj
      · rw [if_neg e] at hj
        refine h'.2.2 (j, cv X w) (List.mem_cons_of_mem _ (List.mem_filter.mpr ⟨lvOf_mem.mpr ⟨w, hj, rfl⟩, ?_⟩))
        have e2 : (j == i) = false := by simpa using fun q => e q.symm
        have e5 : (j == i + 1) = false := by simpa using fun q => e0 q.symm
        show (!(j == i) && (!(j == i + 1) && !(j + 1 == i && (cv X w).category == 2))) = true
        rw [e2, e5, cv_cat]
        by_cases e3 : j + 1 = i
        · rw [okSt_of ok e3 hj]; simp
        · have e4 : (j + 1 == i) = false := by simpa using e3
          rw [e4]; rfl
  · rw [if_neg ok] at h
    cases h
def flA (vs : List Value) : List (Option Value) := vs.flatMap (fun v => if v.category = 2 then [some v, none] else [some v])
def enL (vs : List Value) (n : Nat) : List (Option Value) := flA vs ++ List.replicate (n - (flA vs).length) none
theorem flA_mem {X : En} (vs : List Value) : ∀ (k i : Nat) (v : Value), (flA vs)[i]? = some (some v) → (k + i, cv X v) ∈ lv_args k (vs.map (cv X)) := by
  induction vs with
  | nil => intro k i v h; simp [flA] at h
  | cons a l ih =>
    intro k i v h
    have hf : flA (a :: l) = (if a.category = 2 then [some a, none] else [some a]) ++ flA l := rfl
    rw [hf] at h
    show (k + i, cv X v) ∈ (k, cv X a) :: lv_args (if (cv X a).category = 2 then k + 2 else k + 1) (l.map (cv X))
    rw [cv_cat]
    by_cases hc : a.category = 2
    · rw [if_pos hc] at h ⊢
      match i, h with
      | 0, h => cases h; exact List.mem_cons_self
      | 1, h => cases h
      | j + 2, h =>
        have h2 : (flA l)[j]? = some (some v) := h
        have h3 := ih (k + 2) j v h2
        rw [show k + (j + 2) = k + 2 + j by omega]
        exact List.mem_cons_of_mem _ h3
    · rw [if_neg hc] at h ⊢
      match i, h with
      | 0, h => cases h; exact List.mem_cons_self
      | j + 1, h =>
        have h2 : (flA l)[j]? = some (some v) := h
        have h3 := ih (k + 1) j v h2
        rw [show k + (j + 1) = k + 1 + j by omega]
        exact List.mem_cons_of_mem _ h3
theorem flA_len (X : En) (vs : List Value) : (lg_sl (vs.map (cv X))).length = (flA vs).length := by
  induction vs with
  | nil => rfl
  | cons a l ih =>
    have hf : flA (a :: l) = (if a.category = 2 then [some a, none] else [some a]) ++ flA l := rfl
    have hg : lg_sl ((a :: l).map (cv X)) = (if (cv X a).category = 2 then [.val (cv X a), .second] else [.val (cv X a)]) ++ lg_sl (l.map (cv X)) := rfl
    rw [hf, hg, List.length_append, List.length_append, ih, cv_cat]
    by_cases hc : a.category = 2
    · rw [if_pos hc, if_pos hc]; rfl
    · rw [if_neg hc, if_neg hc]; rfl
theorem lH.entry (X : En) (vs : List Value) {n : Nat} (h : (flA vs).length ≤ n) : lH X ((lg_sl (vs.map (cv X)) ++ List.replicate (n - (lg_sl (vs.map (cv X))).length) Slot.unset).toArray) n (enL vs n) := by
  have hl := lv_entry (vs.map (cv X)) (n := n) (by rw [flA_len]; exact h)
  refine ⟨hl.1, hl.2.1, by simp [enL]; omega, fun i v hi => ?_⟩
  unfold enL at hi
  by_cases hk : i < (flA vs).length
  · rw [List.getElem?_append_left hk] at hi
    have h2 := flA_mem (X := X) vs 0 i v hi
    rw [Nat.zero_add] at h2
    exact hl.2.2 _ h2
  · rw [List.getElem?_append_right (by omega), List.getElem?_replicate] at hi
    split at hi <;> cases hi
abbrev Kt : Type := Room → State → Array Value → List Frame → State → Prop
abbrev Pst : Type := Option Value → Sh → FI → FL → FR → Prop
/-- the walk of method y, at pc, over the world: d: calls that may nest; b: cells and slots that may still come -/
def SW (X : En) (d : Nat) (y : MD) (b : Nat × Nat) (pc : Nat) (ls : List (Option Value)) (st : List Value) (S : Sh) (I : FI) (L : FL) (R : FR) (K : Kt) : Prop :=
  ∀ (p : Program) (e : Env) (Rm : Room) (s : State) (m : MethodId) (args : Array Value) (below : List Frame) (meth : Method) (c : Code) (H : Heap) (locs : List Loc) (cells slots : Nat) (la : Array Slot),
    Cx X y p s m args meth c → (d ≤ Rm.frames ∧ 64 * d ≤ Rm.locals ∧ cells + b.1 ≤ Rm.cells ∧ slots + b.2 ≤ Rm.slots) → World X S I L R H → va_S (xA X) s.heap H locs → lH X la (yl y) ls →
    W p (xl X) e Rm s m args below meth c H locs cells slots (K Rm s args below) (F0 m pc la (cvS X st))
def QcO (X : En) (Q : Pst) : Array Value → State → Outcome → State → Prop := fun _ st o t =>
  ∃ (r : Option Value) (S : Sh) (I : FI) (L : FL) (R : FR), o = .returned (r.map (cv X)) ∧ Q r S I L R ∧ World X S I L R t.heap ∧ st.heap.size ≤ t.heap.size ∧ ∀ q : Nat, q < st.heap.size → ¬ xA X q → t.heap[q]? = st.heap[q]?
def KQ (X : En) (Q : Pst) : Kt := fun Rm s args below => MQ below (QcO X Q) args s Rm.cells Rm.slots (xA X)
def rmD (d mc ms : Nat) : Room := { frames := d, cells := mc, slots := ms, locals := 64 * d }
def PcO (X : En) (args : List Value) (S : Sh) (I : FI) (L : FL) (R : FR) : Array Value → State → Prop := va_Pc (args.map (cv X)) (fun U => World X S I L R U.heap ∧ va_K (xD X) vwCl (tysX X) U ∧ Sta X U ∧ xb X ≤ U.heap.size)
/-- a method's contract over the world -/
def Ev (X : En) (d : Nat) (y : MD) (b : Nat × Nat) (args : List Value) (S : Sh) (I : FI) (L : FL) (R : FR) (Q : Pst) : Prop :=
  Met (xl X) (yn y) (wsY y) (rmD d b.1 b.2) (PcO X args S I L R) (QcO X Q) b.1 b.2 (xA X)
theorem ev_of {X : En} {d : Nat} {y : MD} {b : Nat × Nat} {args : List Value} {S : Sh} {I : FI} {L : FL} {R : FR} {Q : Pst} (hy : plainName (yn y).cls = true) (hn : decide ((flA args).length ≤ yl y) = true) (k : SW X d y b 0 (enL args (yl y)) [] S I L R (KQ X Q)) : Ev X d y b args S I L R Q := by
  refine Met.ofW (cc := yb y) (maxL := yl y) (ret := yr y) hy rfl ?_
  intro p e s m a below meth c s₁ B hml hv
  obtain ⟨rfl, hWd, hK, hSt, hbl⟩ := hv
  have hts := atoms_spec (ws := wsY y) B.pre
  have hown : s.vm.findClass (yn y).cls = some m.cls := findClass_of_methodNamed B.named
  have hC : Cx X y p s m (args.map (cv X)).toArray meth c := ⟨B.exec, B.bytes, B.returns, hml, hown, fun w hw => hts w (List.mem_cons_of_mem _ hw), B.notSynchronized, (name_of_methodNamed B.named B.method).1, hK, hbl, hSt⟩
  have hn' : (flA args).length ≤ yl y := of_decide_eq_true hn
  rw [lg_entry_eq]
  exact k p e _ s m _ below meth c s.heap [] 0 0 _ hC ⟨Nat.le_refl _, Nat.le_refl _, by show 0 + b.1 ≤ b.1; omega, by show 0 + b.2 ≤ b.2; omega⟩ hWd va_S.rf (lH.entry X args hn')
theorem ev_mono {X : En} {d : Nat} {y : MD} {b : Nat × Nat} {args : List Value} {S : Sh} {I : FI} {L : FL} {R : FR} {Q Q' : Pst} (h : Ev X d y b args S I L R Q) (hq : ∀ r S' I' L' R', Q r S' I' L' R' → Q' r S' I' L' R') : Ev X d y b args S I L R Q' := by
  intro p e ha hc hk s m a below hf hp hP hT
  obtain ⟨k, o, h1, h2, h3, ⟨r, S', I', L', R', q1, q2, q3⟩, h5⟩ := h p e ha hc hk s m a below hf hp hP hT
  exact ⟨k, o, h1, h2, h3, ⟨r, S', I', L', R', q1, hq _ _ _ _ _ q2, q3⟩, h5⟩
theorem blindO {X : En} {args : List Value} {S : Sh} {I : FI} {L : FL} {R : FR} : FrameBlind (PcO X args S I L R) := by
  intro a U g mk h
  obtain ⟨h1, h2, h3, h4, h5⟩ := h
  exact ⟨h1, h2, va_K.moved (u := U) (U := U.calling g mk a) (Vm.Alike.refl U.vm) h3, Sta.go (State.WarmedH.refl U) (fun q _ _ => rfl) h4, h5⟩
theorem preO {X : En} {y : MD} {p : Program} {s : State} {m : MethodId} {a : Array Value} {meth : Method} {c : Code} {H : Heap} {locs : List Loc} {args : List Value} {S : Sh} {I : FI} {L : FL} {R : FR} (hC : Cx X y p s m a meth c) (hW : World X S I L R H) (hS : va_S (xA X) s.heap H locs) : PreS s H (PcO X args S I L R) (args.map (cv X)) := by
  refine ⟨blindO, fun U hU hWm => ⟨rfl, by rw [hU]; exact hW, va_K.moved hWm.alike hC.2.2.2.2.2.2.2.2.1, Sta.go hWm (fun q h1 h2 => by rw [hU]; exact hS.2.1 q h1 h2) hC.2.2.2.2.2.2.2.2.2.2, by rw [hU]; exact Nat.le_trans hC.2.2.2.2.2.2.2.2.2.1 hS.1⟩⟩

section ROWS
variable {X : En} {d : Nat} {y : MD} {b : Nat × Nat} {pc : Nat} {ls : List (Option Value)} {st : List Value} {S : Sh} {I : FI} {L : FL} {R : FR} {K : Kt}
theorem s_iconst {n : Int} {v : Int32} (h : decode (yb y) pc = .ok (.iconst n, 1)) (hv : Int32.ofInt n = v)
    (k : SW X d y b (pc + 1) ls (.int v :: st) S I L R K) : SW X d y b (pc) ls (st) S I L R K := by
  intro p e Rm s m args below meth c H locs cells slots la hC hR hW hS hl
  exact lv_iconst hC.1 hC.2.1 h hv (k p e Rm s m args below meth c H locs cells slots la hC hR hW hS hl)
theorem s_bipush {n : Int} {v : Int32} (h : decode (yb y) pc = .ok (.bipush n, 2)) (hv : (Int8.ofInt n).toInt32 = v)
    (k : SW X d y b (pc + 2) ls (.int v :: st) S I L R K) : SW X d y b (pc) ls (st) S I L R K := by
  intro p e Rm s m args below meth c H locs cells slots la hC hR hW hS hl
  exact lv_bipush hC.1 hC.2.1 h hv (k p e Rm s m args below meth c H locs cells slots la hC hR hW hS hl)
theorem s_sipush {n : Int} {v : Int32} (h : decode (yb y) pc = .ok (.sipush n, 3)) (hv : (Int16.ofInt n).toInt32 = v)
    (k : SW X d y b (pc + 3) ls (.int v :: st) S I L R K) : SW X d y b (pc) ls (st) S I L R K := by
  intro p e Rm s m args below meth c H locs cells slots la hC hR hW hS hl
  exact lv_sipush hC.1 hC.2.1 h hv (k p e Rm s m args below meth c H locs cells slots la hC hR hW hS hl)
theorem s_lconst {n : Fin 2} {v : Int64} (h : decode (yb y) pc = .ok (.lconst n, 1)) (hv : Int64.ofNat (n : Nat) = v)
    (k : SW X d y b (pc + 1) ls (.long v :: st) S I L R K) : SW X d y b (pc) ls (st) S I L R K := by
  intro p e Rm s m args below meth c H locs cells slots la hC hR hW hS hl
  exact lv_lconst hC.1 hC.2.1 h hv (k p e Rm s m args below meth c H locs cells slots la hC hR hW hS hl)
theorem s_null  (h : decode (yb y) pc = .ok (.aconst_null, 1)) 
    (k : SW X d y b (pc + 1) ls (.null :: st) S I L R K) : SW X d y b (pc) ls (st) S I L R K := by
  intro p e Rm s m args below meth c H locs cells slots la hC hR hW hS hl
  exact lv_null hC.1 hC.2.1 h (k p e Rm s m args below meth c H locs cells slots la hC hR hW hS hl)
theorem s_ldc {ix : Nat} {v : Int32} (h : decode (yb y) pc = .ok (.ldc ix, 2)) (hc : Cond.constant (yn y).cls ix v ∈ GW)
    (k : SW X d y b (pc + 2) ls (.int v :: st) S I L R K) : SW X d y b (pc) ls (st) S I L R K := by
  intro p e Rm s m args below meth c H locs cells slots la hC hR hW hS hl
  exact lv_ldc hC.1 hC.2.1 hC.2.2.2.2.1 (hC.2.2.2.2.2.1 _ hc) h (k p e Rm s m args below meth c H locs cells slots la hC hR hW hS hl)
theorem s_ldcw {ix : Nat} {v : Int32} (h : decode (yb y) pc = .ok (.ldc_w ix, 3)) (hc : Cond.constant (yn y).cls ix v ∈ GW)
    (k : SW X d y b (pc + 3) ls (.int v :: st) S I L R K) : SW X d y b (pc) ls (st) S I L R K := by
  intro p e Rm s m args below meth c H locs cells slots la hC hR hW hS hl
  exact lv_ldcw hC.1 hC.2.1 hC.2.2.2.2.1 (hC.2.2.2.2.2.1 _ hc) h (k p e Rm s m args below meth c H locs cells slots la hC hR hW hS hl)
theorem s_ldc2 {ix : Nat} {v : Int64} (h : decode (yb y) pc = .ok (.ldc2_w ix, 3)) (hc : Cond.constantLong (yn y).cls ix v ∈ GW)
    (k : SW X d y b (pc + 3) ls (.long v :: st) S I L R K) : SW X d y b (pc) ls (st) S I L R K := by
  intro p e Rm s m args below meth c H locs cells slots la hC hR hW hS hl
  exact lv_ldc2 hC.1 hC.2.1 hC.2.2.2.2.1 (hC.2.2.2.2.2.1 _ hc) h (k p e Rm s m args below meth c H locs cells slots la hC hR hW hS hl)
theorem s_iload_n {i : Fin 4} {x : Int32} (h : decode (yb y) pc = .ok (.iload_n i, 1)) (hv : ls[(i : Nat)]? = some (some (.int x)))
    (k : SW X d y b (pc + 1) ls (.int x :: st) S I L R K) : SW X d y b (pc) ls (st) S I L R K := by
  intro p e Rm s m args below meth c H locs cells slots la hC hR hW hS hl
  exact lv_iload_n hC.1 hC.2.1 h rfl (hl.2.2.2 _ _ hv) (k p e Rm s m args below meth c H locs cells slots la hC hR hW hS hl)
theorem s_iload {i : Nat} {x : Int32} (h : decode (yb y) pc = .ok (.iload i, 2)) (hv : ls[i]? = some (some (.int x)))
    (k : SW X d y b (pc + 2) ls (.int x :: st) S I L R K) : SW X d y b (pc) ls (st) S I L R K := by
  intro p e Rm s m args below meth c H locs cells slots la hC hR hW hS hl
  exact lv_iload hC.1 hC.2.1 h (hl.2.2.2 _ _ hv) (k p e Rm s m args below meth c H locs cells slots la hC hR hW hS hl)
theorem s_lload_n {i : Fin 4} {x : Int64} (h : decode (yb y) pc = .ok (.lload_n i, 1)) (hv : ls[(i : Nat)]? = some (some (.long x)))
    (k : SW X d y b (pc + 1) ls (.long x :: st) S I L R K) : SW X d y b (pc) ls (st) S I L R K := by
  intro p e Rm s m args below meth c H locs cells slots la hC hR hW hS hl
  exact lv_lload_n hC.1 hC.2.1 h rfl (hl.2.2.2 _ _ hv) (k p e Rm s m args below meth c H locs cells slots la hC hR hW hS hl)
theorem s_lload {i : Nat} {x : Int64} (h : decode (yb y) pc = .ok (.lload i, 2)) (hv : ls[i]? = some (some (.long x)))
    (k : SW X d y b (pc + 2) ls (.long x :: st) S I L R K) : SW X d y b (pc) ls (st) S I L R K := by
  intro p e Rm s m args below meth c H locs cells slots la hC hR hW hS hl
  exact lv_lload hC.1 hC.2.1 h (hl.2.2.2 _ _ hv) (k p e Rm s m args below meth c H locs cells slots la hC hR hW hS hl)
theorem s_aloadq_n {i : Fin 4} {r : Option Nat} (h : decode (yb y) pc = .ok (.aload_n i, 1)) (hv : ls[(i : Nat)]? = some (some (va_rf r)))
    (k : SW X d y b (pc + 1) ls (va_rf r :: st) S I L R K) : SW X d y b (pc) ls (st) S I L R K := by
  intro p e Rm s m args below meth c H locs cells slots la hC hR hW hS hl
  rcases r with _ | o
  · exact lv_aload_nN hC.1 hC.2.1 h rfl (hl.2.2.2 _ _ hv) (k p e Rm s m args below meth c H locs cells slots la hC hR hW hS hl)
  · exact lv_aload_n hC.1 hC.2.1 h rfl (hl.2.2.2 _ _ hv) (k p e Rm s m args below meth c H locs cells slots la hC hR hW hS hl)
theorem s_aloadq {i : Nat} {r : Option Nat} (h : decode (yb y) pc = .ok (.aload i, 2)) (hv : ls[i]? = some (some (va_rf r)))
    (k : SW X d y b (pc + 2) ls (va_rf r :: st) S I L R K) : SW X d y b (pc) ls (st) S I L R K := by
  intro p e Rm s m args below meth c H locs cells slots la hC hR hW hS hl
  rcases r with _ | o
  · exact lv_aloadN hC.1 hC.2.1 h (hl.2.2.2 _ _ hv) (k p e Rm s m args below meth c H locs cells slots la hC hR hW hS hl)
  · exact lv_aload hC.1 hC.2.1 h (hl.2.2.2 _ _ hv) (k p e Rm s m args below meth c H locs cells slots la hC hR hW hS hl)
theorem s_aload_n {i : Fin 4} {o : Nat} (h : decode (yb y) pc = .ok (.aload_n i, 1)) (hv : ls[(i : Nat)]? = some (some (.ref o)))
    (k : SW X d y b (pc + 1) ls (.ref o :: st) S I L R K) : SW X d y b (pc) ls (st) S I L R K := by
  intro p e Rm s m args below meth c H locs cells slots la hC hR hW hS hl
  exact lv_aload_n hC.1 hC.2.1 h rfl (hl.2.2.2 _ _ hv) (k p e Rm s m args below meth c H locs cells slots la hC hR hW hS hl)
theorem s_aload {i : Nat} {o : Nat} (h : decode (yb y) pc = .ok (.aload i, 2)) (hv : ls[i]? = some (some (.ref o)))
    (k : SW X d y b (pc + 2) ls (.ref o :: st) S I L R K) : SW X d y b (pc) ls (st) S I L R K := by
  intro p e Rm s m args below meth c H locs cells slots la hC hR hW hS hl
  exact lv_aload hC.1 hC.2.1 h (hl.2.2.2 _ _ hv) (k p e Rm s m args below meth c H locs cells slots la hC hR hW hS hl)
theorem s_istore_n {i : Fin 4} {x : Int32} {ls' : List (Option Value)} (h : decode (yb y) pc = .ok (.istore_n i, 1)) (hs : stL1 ls (i : Nat) (.int x) = some ls') (hi : decide ((i : Nat) < yl y) = true)
    (k : SW X d y b (pc + 1) ls' (st) S I L R K) : SW X d y b (pc) ls (.int x :: st) S I L R K := by
  intro p e Rm s m args below meth c H locs cells slots la hC hR hW hS hl
  exact lv_istore_n hC.1 hC.2.1 h rfl hl.has (of_decide_eq_true hi) rfl (fun la2 h2 => k p e Rm s m args below meth c H locs cells slots la2 hC hR hW hS (hl.set1 hs h2))
theorem s_istore {i : Nat} {x : Int32} {ls' : List (Option Value)} (h : decode (yb y) pc = .ok (.istore i, 2)) (hs : stL1 ls i (.int x) = some ls') (hi : decide (i < yl y) = true)
    (k : SW X d y b (pc + 2) ls' (st) S I L R K) : SW X d y b (pc) ls (.int x :: st) S I L R K := by
  intro p e Rm s m args below meth c H locs cells slots la hC hR hW hS hl
  exact lv_istore hC.1 hC.2.1 h hl.has (of_decide_eq_true hi) rfl (fun la2 h2 => k p e Rm s m args below meth c H locs cells slots la2 hC hR hW hS (hl.set1 hs h2))
theorem s_lstore_n {i : Fin 4} {x : Int64} {ls' : List (Option Value)} (h : decode (yb y) pc = .ok (.lstore_n i, 1)) (hs : stL2 ls (i : Nat) (.long x) = some ls') (hi : decide ((i : Nat) + 1 < yl y) = true)
    (k : SW X d y b (pc + 1) ls' (st) S I L R K) : SW X d y b (pc) ls (.long x :: st) S I L R K := by
  intro p e Rm s m args below meth c H locs cells slots la hC hR hW hS hl
  exact lv_lstore_n hC.1 hC.2.1 h rfl hl.has (of_decide_eq_true hi) rfl (fun la2 h2 => k p e Rm s m args below meth c H locs cells slots la2 hC hR hW hS (hl.set2 hs h2))
theorem s_lstore {i : Nat} {x : Int64} {ls' : List (Option Value)} (h : decode (yb y) pc = .ok (.lstore i, 2)) (hs : stL2 ls i (.long x) = some ls') (hi : decide (i + 1 < yl y) = true)
    (k : SW X d y b (pc + 2) ls' (st) S I L R K) : SW X d y b (pc) ls (.long x :: st) S I L R K := by
  intro p e Rm s m args below meth c H locs cells slots la hC hR hW hS hl
  exact lv_lstore hC.1 hC.2.1 h hl.has (of_decide_eq_true hi) rfl (fun la2 h2 => k p e Rm s m args below meth c H locs cells slots la2 hC hR hW hS (hl.set2 hs h2))
theorem s_astore_n {i : Fin 4} {o : Nat} {ls' : List (Option Value)} (h : decode (yb y) pc = .ok (.astore_n i, 1)) (hs : stL1 ls (i : Nat) (.ref o) = some ls') (hi : decide ((i : Nat) < yl y) = true)
    (k : SW X d y b (pc + 1) ls' (st) S I L R K) : SW X d y b (pc) ls (.ref o :: st) S I L R K := by
  intro p e Rm s m args below meth c H locs cells slots la hC hR hW hS hl
  exact lv_astore_n hC.1 hC.2.1 h rfl hl.has (of_decide_eq_true hi) rfl (fun la2 h2 => k p e Rm s m args below meth c H locs cells slots la2 hC hR hW hS (hl.set1 hs h2))
theorem s_astore {i : Nat} {o : Nat} {ls' : List (Option Value)} (h : decode (yb y) pc = .ok (.astore i, 2)) (hs : stL1 ls i (.ref o) = some ls') (hi : decide (i < yl y) = true)
    (k : SW X d y b (pc + 2) ls' (st) S I L R K) : SW X d y b (pc) ls (.ref o :: st) S I L R K := by
  intro p e Rm s m args below meth c H locs cells slots la hC hR hW hS hl
  exact lv_astore hC.1 hC.2.1 h hl.has (of_decide_eq_true hi) rfl (fun la2 h2 => k p e Rm s m args below meth c H locs cells slots la2 hC hR hW hS (hl.set1 hs h2))
theorem s_astoreN_n {i : Fin 4} {ls' : List (Option Value)} (h : decode (yb y) pc = .ok (.astore_n i, 1)) (hs : stL1 ls (i : Nat) (.null) = some ls') (hi : decide ((i : Nat) < yl y) = true)
    (k : SW X d y b (pc + 1) ls' (st) S I L R K) : SW X d y b (pc) ls (.null :: st) S I L R K := by
  intro p e Rm s m args below meth c H locs cells slots la hC hR hW hS hl
  exact lv_astore_nN hC.1 hC.2.1 h rfl hl.has (of_decide_eq_true hi) rfl (fun la2 h2 => k p e Rm s m args below meth c H locs cells slots la2 hC hR hW hS (hl.set1 hs h2))
theorem s_astoreN {i : Nat} {ls' : List (Option Value)} (h : decode (yb y) pc = .ok (.astore i, 2)) (hs : stL1 ls i (.null) = some ls') (hi : decide (i < yl y) = true)
    (k : SW X d y b (pc + 2) ls' (st) S I L R K) : SW X d y b (pc) ls (.null :: st) S I L R K := by
  intro p e Rm s m args below meth c H locs cells slots la hC hR hW hS hl
  exact lv_astoreN hC.1 hC.2.1 h hl.has (of_decide_eq_true hi) rfl (fun la2 h2 => k p e Rm s m args below meth c H locs cells slots la2 hC hR hW hS (hl.set1 hs h2))
theorem s_iinc {i : Nat} {n : Int} {x v : Int32} {ls' : List (Option Value)} (h : decode (yb y) pc = .ok (.iinc i n, 3)) (hv : ls[i]? = some (some (.int x))) (he : x + Int32.ofInt n = v) (hs : stL1 ls i (.int v) = some ls') (hi : decide (i < yl y) = true)
    (k : SW X d y b (pc + 3) ls' (st) S I L R K) : SW X d y b (pc) ls (st) S I L R K := by
  intro p e Rm s m args below meth c H locs cells slots la hC hR hW hS hl
  have hm : (i, Value.int x) ∈ lvOf X ls := lvOf_mem.mpr ⟨_, hv, rfl⟩
  obtain ⟨j, hj⟩ := List.getElem?_of_mem hm
  exact lv_iinc hC.1 hC.2.1 h hl.has hj he (of_decide_eq_true hi) rfl (fun la2 h2 => k p e Rm s m args below meth c H locs cells slots la2 hC hR hW hS (hl.set1 hs h2))
theorem s_iadd {x z : Int32} (h : decode (yb y) pc = .ok (.iadd, 1)) 
    (k : SW X d y b (pc + 1) ls (.int (x + z) :: st) S I L R K) : SW X d y b (pc) ls (.int z :: .int x :: st) S I L R K := by
  intro p e Rm s m args below meth c H locs cells slots la hC hR hW hS hl
  exact lv_iadd hC.1 hC.2.1 h (k p e Rm s m args below meth c H locs cells slots la hC hR hW hS hl)
theorem s_isub {x z : Int32} (h : decode (yb y) pc = .ok (.isub, 1)) 
    (k : SW X d y b (pc + 1) ls (.int (x - z) :: st) S I L R K) : SW X d y b (pc) ls (.int z :: .int x :: st) S I L R K := by
  intro p e Rm s m args below meth c H locs cells slots la hC hR hW hS hl
  exact lv_isub hC.1 hC.2.1 h (k p e Rm s m args below meth c H locs cells slots la hC hR hW hS hl)
theorem s_imul {x z : Int32} (h : decode (yb y) pc = .ok (.imul, 1)) 
    (k : SW X d y b (pc + 1) ls (.int (x * z) :: st) S I L R K) : SW X d y b (pc) ls (.int z :: .int x :: st) S I L R K := by
  intro p e Rm s m args below meth c H locs cells slots la hC hR hW hS hl
  exact lv_imul hC.1 hC.2.1 h (k p e Rm s m args below meth c H locs cells slots la hC hR hW hS hl)
theorem s_iand {x z : Int32} (h : decode (yb y) pc = .ok (.iand, 1)) 
    (k : SW X d y b (pc + 1) ls (.int (x &&& z) :: st) S I L R K) : SW X d y b (pc) ls (.int z :: .int x :: st) S I L R K := by
  intro p e Rm s m args below meth c H locs cells slots la hC hR hW hS hl
  exact lv_iand hC.1 hC.2.1 h (k p e Rm s m args below meth c H locs cells slots la hC hR hW hS hl)
theorem s_ior {x z : Int32} (h : decode (yb y) pc = .ok (.ior, 1)) 
    (k : SW X d y b (pc + 1) ls (.int (x ||| z) :: st) S I L R K) : SW X d y b (pc) ls (.int z :: .int x :: st) S I L R K := by
  intro p e Rm s m args below meth c H locs cells slots la hC hR hW hS hl
  exact lv_ior hC.1 hC.2.1 h (k p e Rm s m args below meth c H locs cells slots la hC hR hW hS hl)
theorem s_ixor {x z : Int32} (h : decode (yb y) pc = .ok (.ixor, 1)) 
    (k : SW X d y b (pc + 1) ls (.int (x ^^^ z) :: st) S I L R K) : SW X d y b (pc) ls (.int z :: .int x :: st) S I L R K := by
  intro p e Rm s m args below meth c H locs cells slots la hC hR hW hS hl
  exact lv_ixor hC.1 hC.2.1 h (k p e Rm s m args below meth c H locs cells slots la hC hR hW hS hl)
theorem s_ishl {x z : Int32} (h : decode (yb y) pc = .ok (.ishl, 1)) 
    (k : SW X d y b (pc + 1) ls (.int (x <<< (z &&& 31)) :: st) S I L R K) : SW X d y b (pc) ls (.int z :: .int x :: st) S I L R K := by
  intro p e Rm s m args below meth c H locs cells slots la hC hR hW hS hl
  exact lv_ishl hC.1 hC.2.1 h (k p e Rm s m args below meth c H locs cells slots la hC hR hW hS hl)
theorem s_ishr {x z : Int32} (h : decode (yb y) pc = .ok (.ishr, 1)) 
    (k : SW X d y b (pc + 1) ls (.int (x >>> (z &&& 31)) :: st) S I L R K) : SW X d y b (pc) ls (.int z :: .int x :: st) S I L R K := by
  intro p e Rm s m args below meth c H locs cells slots la hC hR hW hS hl
  exact lv_ishr hC.1 hC.2.1 h (k p e Rm s m args below meth c H locs cells slots la hC hR hW hS hl)
theorem s_iushr {x z : Int32} (h : decode (yb y) pc = .ok (.iushr, 1)) 
    (k : SW X d y b (pc + 1) ls (.int ((x.toUInt32 >>> (z.toUInt32 &&& Int32.toUInt32 31)).toInt32) :: st) S I L R K) : SW X d y b (pc) ls (.int z :: .int x :: st) S I L R K := by
  intro p e Rm s m args below meth c H locs cells slots la hC hR hW hS hl
  exact lv_iushr hC.1 hC.2.1 h rfl (k p e Rm s m args below meth c H locs cells slots la hC hR hW hS hl)
theorem s_idiv {x z : Int32} (h : decode (yb y) pc = .ok (.idiv, 1)) (hz : ¬ z = 0)
    (k : SW X d y b (pc + 1) ls (.int (x / z) :: st) S I L R K) : SW X d y b (pc) ls (.int z :: .int x :: st) S I L R K := by
  intro p e Rm s m args below meth c H locs cells slots la hC hR hW hS hl
  exact lv_idiv hC.1 hC.2.1 h hz (k p e Rm s m args below meth c H locs cells slots la hC hR hW hS hl)
theorem s_irem {x z : Int32} (h : decode (yb y) pc = .ok (.irem, 1)) (hz : ¬ z = 0)
    (k : SW X d y b (pc + 1) ls (.int (x - x / z * z) :: st) S I L R K) : SW X d y b (pc) ls (.int z :: .int x :: st) S I L R K := by
  intro p e Rm s m args below meth c H locs cells slots la hC hR hW hS hl
  exact lv_irem hC.1 hC.2.1 h hz (k p e Rm s m args below meth c H locs cells slots la hC hR hW hS hl)
theorem s_ineg {x : Int32} (h : decode (yb y) pc = .ok (.ineg, 1)) 
    (k : SW X d y b (pc + 1) ls (.int (-x) :: st) S I L R K) : SW X d y b (pc) ls (.int x :: st) S I L R K := by
  intro p e Rm s m args below meth c H locs cells slots la hC hR hW hS hl
  exact lv_ineg hC.1 hC.2.1 h (k p e Rm s m args below meth c H locs cells slots la hC hR hW hS hl)
theorem s_ladd {x z : Int64} (h : decode (yb y) pc = .ok (.ladd, 1)) 
    (k : SW X d y b (pc + 1) ls (.long (x + z) :: st) S I L R K) : SW X d y b (pc) ls (.long z :: .long x :: st) S I L R K := by
  intro p e Rm s m args below meth c H locs cells slots la hC hR hW hS hl
  exact lv_ladd hC.1 hC.2.1 h (k p e Rm s m args below meth c H locs cells slots la hC hR hW hS hl)
theorem s_lsub {x z : Int64} (h : decode (yb y) pc = .ok (.lsub, 1)) 
    (k : SW X d y b (pc + 1) ls (.long (x - z) :: st) S I L R K) : SW X d y b (pc) ls (.long z :: .long x :: st) S I L R K := by
  intro p e Rm s m args below meth c H locs cells slots la hC hR hW hS hl
  exact lv_lsub hC.1 hC.2.1 h (k p e Rm s m args below meth c H locs cells slots la hC hR hW hS hl)
theorem s_lmul {x z : Int64} (h : decode (yb y) pc = .ok (.lmul, 1)) 
    (k : SW X d y b (pc + 1) ls (.long (x * z) :: st) S I L R K) : SW X d y b (pc) ls (.long z :: .long x :: st) S I L R K := by
  intro p e Rm s m args below meth c H locs cells slots la hC hR hW hS hl
  exact lv_lmul hC.1 hC.2.1 h (k p e Rm s m args below meth c H locs cells slots la hC hR hW hS hl)
theorem s_ldiv {x z : Int64} (h : decode (yb y) pc = .ok (.ldiv, 1)) (hz : ¬ z = 0)
    (k : SW X d y b (pc + 1) ls (.long (x / z) :: st) S I L R K) : SW X d y b (pc) ls (.long z :: .long x :: st) S I L R K := by
  intro p e Rm s m args below meth c H locs cells slots la hC hR hW hS hl
  exact lv_ldiv hC.1 hC.2.1 h hz (k p e Rm s m args below meth c H locs cells slots la hC hR hW hS hl)
theorem s_lrem {x z : Int64} (h : decode (yb y) pc = .ok (.lrem, 1)) (hz : ¬ z = 0)
    (k : SW X d y b (pc + 1) ls (.long (x - x / z * z) :: st) S I L R K) : SW X d y b (pc) ls (.long z :: .long x :: st) S I L R K := by
  intro p e Rm s m args below meth c H locs cells slots la hC hR hW hS hl
  exact lv_lrem hC.1 hC.2.1 h hz (k p e Rm s m args below meth c H locs cells slots la hC hR hW hS hl)
theorem s_lcmp {x z : Int64} (h : decode (yb y) pc = .ok (.lcmp, 1)) 
    (k : SW X d y b (pc + 1) ls (.int (lg_cmp x z) :: st) S I L R K) : SW X d y b (pc) ls (.long z :: .long x :: st) S I L R K := by
  intro p e Rm s m args below meth c H locs cells slots la hC hR hW hS hl
  exact W.lcmp hC.1 hC.2.1 h (k p e Rm s m args below meth c H locs cells slots la hC hR hW hS hl)
theorem s_i2l {x : Int32} (h : decode (yb y) pc = .ok (.i2l, 1)) 
    (k : SW X d y b (pc + 1) ls (.long x.toInt64 :: st) S I L R K) : SW X d y b (pc) ls (.int x :: st) S I L R K := by
  intro p e Rm s m args below meth c H locs cells slots la hC hR hW hS hl
  exact lv_i2l hC.1 hC.2.1 h rfl (k p e Rm s m args below meth c H locs cells slots la hC hR hW hS hl)
theorem s_l2i {x : Int64} (h : decode (yb y) pc = .ok (.l2i, 1)) 
    (k : SW X d y b (pc + 1) ls (.int x.toInt32 :: st) S I L R K) : SW X d y b (pc) ls (.long x :: st) S I L R K := by
  intro p e Rm s m args below meth c H locs cells slots la hC hR hW hS hl
  exact lv_l2i hC.1 hC.2.1 h rfl (k p e Rm s m args below meth c H locs cells slots la hC hR hW hS hl)
theorem s_i2b {x : Int32} (h : decode (yb y) pc = .ok (.i2b, 1)) 
    (k : SW X d y b (pc + 1) ls (.int x.toInt8.toInt32 :: st) S I L R K) : SW X d y b (pc) ls (.int x :: st) S I L R K := by
  intro p e Rm s m args below meth c H locs cells slots la hC hR hW hS hl
  exact lv_i2b hC.1 hC.2.1 h rfl (k p e Rm s m args below meth c H locs cells slots la hC hR hW hS hl)
theorem s_i2s {x : Int32} (h : decode (yb y) pc = .ok (.i2s, 1)) 
    (k : SW X d y b (pc + 1) ls (.int x.toInt16.toInt32 :: st) S I L R K) : SW X d y b (pc) ls (.int x :: st) S I L R K := by
  intro p e Rm s m args below meth c H locs cells slots la hC hR hW hS hl
  exact lv_i2s hC.1 hC.2.1 h rfl (k p e Rm s m args below meth c H locs cells slots la hC hR hW hS hl)
theorem s_dup {a : Value} (h : decode (yb y) pc = .ok (.dup, 1)) (ha : (a.category == 1) = true)
    (k : SW X d y b (pc + 1) ls (a :: a :: st) S I L R K) : SW X d y b (pc) ls (a :: st) S I L R K := by
  intro p e Rm s m args below meth c H locs cells slots la hC hR hW hS hl
  exact lv_dup hC.1 hC.2.1 h ((cv_cat X a).trans (beq_iff_eq.mp ha)) (k p e Rm s m args below meth c H locs cells slots la hC hR hW hS hl)
theorem s_pop {a : Value} (h : decode (yb y) pc = .ok (.pop, 1)) (ha : (a.category == 1) = true)
    (k : SW X d y b (pc + 1) ls (st) S I L R K) : SW X d y b (pc) ls (a :: st) S I L R K := by
  intro p e Rm s m args below meth c H locs cells slots la hC hR hW hS hl
  exact lv_pop hC.1 hC.2.1 h ((cv_cat X a).trans (beq_iff_eq.mp ha)) (k p e Rm s m args below meth c H locs cells slots la hC hR hW hS hl)
theorem s_dup2 {a a2 : Value} (h : decode (yb y) pc = .ok (.dup2, 1)) (ha : (a.category == 1) = true) (ha2 : (a2.category == 1) = true)
    (k : SW X d y b (pc + 1) ls (a :: a2 :: a :: a2 :: st) S I L R K) : SW X d y b (pc) ls (a :: a2 :: st) S I L R K := by
  intro p e Rm s m args below meth c H locs cells slots la hC hR hW hS hl
  exact lv_dup2_11 hC.1 hC.2.1 h ((cv_cat X a).trans (beq_iff_eq.mp ha)) ((cv_cat X a2).trans (beq_iff_eq.mp ha2)) (k p e Rm s m args below meth c H locs cells slots la hC hR hW hS hl)
theorem s_dup_x1 {a a2 : Value} (h : decode (yb y) pc = .ok (.dup_x1, 1)) (ha : (a.category == 1) = true) (ha2 : (a2.category == 1) = true)
    (k : SW X d y b (pc + 1) ls (a :: a2 :: a :: st) S I L R K) : SW X d y b (pc) ls (a :: a2 :: st) S I L R K := by
  intro p e Rm s m args below meth c H locs cells slots la hC hR hW hS hl
  exact lv_dup_x1 hC.1 hC.2.1 h ((cv_cat X a).trans (beq_iff_eq.mp ha)) ((cv_cat X a2).trans (beq_iff_eq.mp ha2)) (k p e Rm s m args below meth c H locs cells slots la hC hR hW hS hl)
theorem s_if_eq {x : Int32} {off : Int} {tgt : Nat} (h : decode (yb y) pc = .ok (.ifCond .eq off, 3)) (ht : (pc : Int) + off = (tgt : Int))
    (kt : x = 0 → SW X d y b (tgt) ls (st) S I L R K) (kf : ¬ x = 0 → SW X d y b (pc + 3) ls (st) S I L R K) : SW X d y b (pc) ls (.int x :: st) S I L R K := by
  intro p e Rm s m args below meth c H locs cells slots la hC hR hW hS hl
  exact lv_if_eq hC.1 hC.2.1 h ht (fun q => kt q p e Rm s m args below meth c H locs cells slots la hC hR hW hS hl) (fun q => kf q p e Rm s m args below meth c H locs cells slots la hC hR hW hS hl)
theorem s_icmp_eq {x z : Int32} {off : Int} {tgt : Nat} (h : decode (yb y) pc = .ok (.if_icmp .eq off, 3)) (ht : (pc : Int) + off = (tgt : Int))
    (kt : x = z → SW X d y b (tgt) ls (st) S I L R K) (kf : ¬ x = z → SW X d y b (pc + 3) ls (st) S I L R K) : SW X d y b (pc) ls (.int z :: .int x :: st) S I L R K := by
  intro p e Rm s m args below meth c H locs cells slots la hC hR hW hS hl
  exact lv_icmp_eq hC.1 hC.2.1 h ht (fun q => kt q p e Rm s m args below meth c H locs cells slots la hC hR hW hS hl) (fun q => kf q p e Rm s m args below meth c H locs cells slots la hC hR hW hS hl)
theorem s_if_ne {x : Int32} {off : Int} {tgt : Nat} (h : decode (yb y) pc = .ok (.ifCond .ne off, 3)) (ht : (pc : Int) + off = (tgt : Int))
    (kt : ¬ x = 0 → SW X d y b (tgt) ls (st) S I L R K) (kf : x = 0 → SW X d y b (pc + 3) ls (st) S I L R K) : SW X d y b (pc) ls (.int x :: st) S I L R K := by
  intro p e Rm s m args below meth c H locs cells slots la hC hR hW hS hl
  exact lv_if_ne hC.1 hC.2.1 h ht (fun q => kt q p e Rm s m args below meth c H locs cells slots la hC hR hW hS hl) (fun q => kf q p e Rm s m args below meth c H locs cells slots la hC hR hW hS hl)
theorem s_icmp_ne {x z : Int32} {off : Int} {tgt : Nat} (h : decode (yb y) pc = .ok (.if_icmp .ne off, 3)) (ht : (pc : Int) + off = (tgt : Int))
    (kt : ¬ x = z → SW X d y b (tgt) ls (st) S I L R K) (kf : x = z → SW X d y b (pc + 3) ls (st) S I L R K) : SW X d y b (pc) ls (.int z :: .int x :: st) S I L R K := by
  intro p e Rm s m args below meth c H locs cells slots la hC hR hW hS hl
  exact lv_icmp_ne hC.1 hC.2.1 h ht (fun q => kt q p e Rm s m args below meth c H locs cells slots la hC hR hW hS hl) (fun q => kf q p e Rm s m args below meth c H locs cells slots la hC hR hW hS hl)
theorem s_if_lt {x : Int32} {off : Int} {tgt : Nat} (h : decode (yb y) pc = .ok (.ifCond .lt off, 3)) (ht : (pc : Int) + off = (tgt : Int))
    (kt : x < 0 → SW X d y b (tgt) ls (st) S I L R K) (kf : ¬ x < 0 → SW X d y b (pc + 3) ls (st) S I L R K) : SW X d y b (pc) ls (.int x :: st) S I L R K := by
  intro p e Rm s m args below meth c H locs cells slots la hC hR hW hS hl
  exact lv_if_lt hC.1 hC.2.1 h ht (fun q => kt q p e Rm s m args below meth c H locs cells slots la hC hR hW hS hl) (fun q => kf q p e Rm s m args below meth c H locs cells slots la hC hR hW hS hl)
theorem s_icmp_lt {x z : Int32} {off : Int} {tgt : Nat} (h : decode (yb y) pc = .ok (.if_icmp .lt off, 3)) (ht : (pc : Int) + off = (tgt : Int))
    (kt : x < z → SW X d y b (tgt) ls (st) S I L R K) (kf : ¬ x < z → SW X d y b (pc + 3) ls (st) S I L R K) : SW X d y b (pc) ls (.int z :: .int x :: st) S I L R K := by
  intro p e Rm s m args below meth c H locs cells slots la hC hR hW hS hl
  exact lv_icmp_lt hC.1 hC.2.1 h ht (fun q => kt q p e Rm s m args below meth c H locs cells slots la hC hR hW hS hl) (fun q => kf q p e Rm s m args below meth c H locs cells slots la hC hR hW hS hl)
theorem s_if_ge {x : Int32} {off : Int} {tgt : Nat} (h : decode (yb y) pc = .ok (.ifCond .ge off, 3)) (ht : (pc : Int) + off = (tgt : Int))
    (kt : 0 ≤ x → SW X d y b (tgt) ls (st) S I L R K) (kf : ¬ 0 ≤ x → SW X d y b (pc + 3) ls (st) S I L R K) : SW X d y b (pc) ls (.int x :: st) S I L R K := by
  intro p e Rm s m args below meth c H locs cells slots la hC hR hW hS hl
  exact lv_if_ge hC.1 hC.2.1 h ht (fun q => kt q p e Rm s m args below meth c H locs cells slots la hC hR hW hS hl) (fun q => kf q p e Rm s m args below meth c H locs cells slots la hC hR hW hS hl)
theorem s_icmp_ge {x z : Int32} {off : Int} {tgt : Nat} (h : decode (yb y) pc = .ok (.if_icmp .ge off, 3)) (ht : (pc : Int) + off = (tgt : Int))
    (kt : z ≤ x → SW X d y b (tgt) ls (st) S I L R K) (kf : ¬ z ≤ x → SW X d y b (pc + 3) ls (st) S I L R K) : SW X d y b (pc) ls (.int z :: .int x :: st) S I L R K := by
  intro p e Rm s m args below meth c H locs cells slots la hC hR hW hS hl
  exact lv_icmp_ge hC.1 hC.2.1 h ht (fun q => kt q p e Rm s m args below meth c H locs cells slots la hC hR hW hS hl) (fun q => kf q p e Rm s m args below meth c H locs cells slots la hC hR hW hS hl)
theorem s_if_gt {x : Int32} {off : Int} {tgt : Nat} (h : decode (yb y) pc = .ok (.ifCond .gt off, 3)) (ht : (pc : Int) + off = (tgt : Int))
    (kt : 0 < x → SW X d y b (tgt) ls (st) S I L R K) (kf : ¬ 0 < x → SW X d y b (pc + 3) ls (st) S I L R K) : SW X d y b (pc) ls (.int x :: st) S I L R K := by
  intro p e Rm s m args below meth c H locs cells slots la hC hR hW hS hl
  exact lv_if_gt hC.1 hC.2.1 h ht (fun q => kt q p e Rm s m args below meth c H locs cells slots la hC hR hW hS hl) (fun q => kf q p e Rm s m args below meth c H locs cells slots la hC hR hW hS hl)
theorem s_icmp_gt {x z : Int32} {off : Int} {tgt : Nat} (h : decode (yb y) pc = .ok (.if_icmp .gt off, 3)) (ht : (pc : Int) + off = (tgt : Int))
    (kt : z < x → SW X d y b (tgt) ls (st) S I L R K) (kf : ¬ z < x → SW X d y b (pc + 3) ls (st) S I L R K) : SW X d y b (pc) ls (.int z :: .int x :: st) S I L R K := by
  intro p e Rm s m args below meth c H locs cells slots la hC hR hW hS hl
  exact lv_icmp_gt hC.1 hC.2.1 h ht (fun q => kt q p e Rm s m args below meth c H locs cells slots la hC hR hW hS hl) (fun q => kf q p e Rm s m args below meth c H locs cells slots la hC hR hW hS hl)
theorem s_if_le {x : Int32} {off : Int} {tgt : Nat} (h : decode (yb y) pc = .ok (.ifCond .le off, 3)) (ht : (pc : Int) + off = (tgt : Int))
    (kt : x ≤ 0 → SW X d y b (tgt) ls (st) S I L R K) (kf : ¬ x ≤ 0 → SW X d y b (pc + 3) ls (st) S I L R K) : SW X d y b (pc) ls (.int x :: st) S I L R K := by
  intro p e Rm s m args below meth c H locs cells slots la hC hR hW hS hl
  exact lv_if_le hC.1 hC.2.1 h ht (fun q => kt q p e Rm s m args below meth c H locs cells slots la hC hR hW hS hl) (fun q => kf q p e Rm s m args below meth c H locs cells slots la hC hR hW hS hl)
theorem s_icmp_le {x z : Int32} {off : Int} {tgt : Nat} (h : decode (yb y) pc = .ok (.if_icmp .le off, 3)) (ht : (pc : Int) + off = (tgt : Int))
    (kt : x ≤ z → SW X d y b (tgt) ls (st) S I L R K) (kf : ¬ x ≤ z → SW X d y b (pc + 3) ls (st) S I L R K) : SW X d y b (pc) ls (.int z :: .int x :: st) S I L R K := by
  intro p e Rm s m args below meth c H locs cells slots la hC hR hW hS hl
  exact lv_icmp_le hC.1 hC.2.1 h ht (fun q => kt q p e Rm s m args below meth c H locs cells slots la hC hR hW hS hl) (fun q => kf q p e Rm s m args below meth c H locs cells slots la hC hR hW hS hl)
theorem s_goto {off : Int} {tgt : Nat} (h : decode (yb y) pc = .ok (.goto off, 3)) (ht : (pc : Int) + off = (tgt : Int))
    (k : SW X d y b (tgt) ls (st) S I L R K) : SW X d y b (pc) ls (st) S I L R K := by
  intro p e Rm s m args below meth c H locs cells slots la hC hR hW hS hl
  exact lv_goto hC.1 hC.2.1 h ht (k p e Rm s m args below meth c H locs cells slots la hC hR hW hS hl)
theorem s_ifnull {o : Nat} {off : Int} (h : decode (yb y) pc = .ok (.ifnull off, 3))
    (k : SW X d y b (pc + 3) ls (st) S I L R K) : SW X d y b (pc) ls (.ref o :: st) S I L R K := by
  intro p e Rm s m args below meth c H locs cells slots la hC hR hW hS hl
  exact lv_ifnull hC.1 hC.2.1 h (k p e Rm s m args below meth c H locs cells slots la hC hR hW hS hl)
theorem s_ifnullN {off : Int} {tgt : Nat} (h : decode (yb y) pc = .ok (.ifnull off, 3)) (ht : (pc : Int) + off = (tgt : Int))
    (k : SW X d y b (tgt) ls (st) S I L R K) : SW X d y b (pc) ls (.null :: st) S I L R K := by
  intro p e Rm s m args below meth c H locs cells slots la hC hR hW hS hl
  exact lv_ifnullN hC.1 hC.2.1 h ht (k p e Rm s m args below meth c H locs cells slots la hC hR hW hS hl)
theorem s_ifnonnull {o : Nat} {off : Int} {tgt : Nat} (h : decode (yb y) pc = .ok (.ifnonnull off, 3)) (ht : (pc : Int) + off = (tgt : Int))
    (k : SW X d y b (tgt) ls (st) S I L R K) : SW X d y b (pc) ls (.ref o :: st) S I L R K := by
  intro p e Rm s m args below meth c H locs cells slots la hC hR hW hS hl
  exact lv_ifnonnull hC.1 hC.2.1 h ht (k p e Rm s m args below meth c H locs cells slots la hC hR hW hS hl)
theorem s_ifnonnullN {off : Int} (h : decode (yb y) pc = .ok (.ifnonnull off, 3))
    (k : SW X d y b (pc + 3) ls (st) S I L R K) : SW X d y b (pc) ls (.null :: st) S I L R K := by
  intro p e Rm s m args below meth c H locs cells slots la hC hR hW hS hl
  exact lv_ifnonnullN hC.1 hC.2.1 h (k p e Rm s m args below meth c H locs cells slots la hC hR hW hS hl)
theorem s_tableIn {dflt lo hi : Int} {offs : Array Int} {len : Nat} {x : Int32} {off : Int} {tgt : Nat} (h : decode (yb y) pc = .ok (.tableswitch dflt lo hi offs, len)) (h1 : ¬ x.toInt < lo) (h2 : ¬ hi < x.toInt) (ho : offs[(x.toInt - lo).toNat]? = some off) (ht : (pc : Int) + off = (tgt : Int))
    (k : SW X d y b (tgt) ls (st) S I L R K) : SW X d y b (pc) ls (.int x :: st) S I L R K := by
  intro p e Rm s m args below meth c H locs cells slots la hC hR hW hS hl
  exact lv_tableIn hC.1 hC.2.1 h h1 h2 ho ht (k p e Rm s m args below meth c H locs cells slots la hC hR hW hS hl)
theorem s_tableOut {dflt lo hi : Int} {offs : Array Int} {len : Nat} {x : Int32} {tgt : Nat} (h : decode (yb y) pc = .ok (.tableswitch dflt lo hi offs, len)) (h1 : x.toInt < lo ∨ hi < x.toInt) (ht : (pc : Int) + dflt = (tgt : Int))
    (k : SW X d y b (tgt) ls (st) S I L R K) : SW X d y b (pc) ls (.int x :: st) S I L R K := by
  intro p e Rm s m args below meth c H locs cells slots la hC hR hW hS hl
  exact lv_tableOut hC.1 hC.2.1 h h1 ht (k p e Rm s m args below meth c H locs cells slots la hC hR hW hS hl)
end ROWS
