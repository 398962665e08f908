/-! trees, rows of the host, rules -/
def setO (I : FI) (o : Nat) (f : Nat → Int32) : FI := fun a => if a = o then f else I a
theorem setO_o {I : FI} {o : Nat} {f : Nat → Int32} : setO I o f o = f := if_pos rfl
theorem setO_n {I : FI} {o a : Nat} {f : Nat → Int32} (h : a ≠ o) : setO I o f a = I a := if_neg h
theorem setO_self {I : FI} {o : Nat} : setO I o (I o) = I := by funext a; unfold setO; by_cases h : a = o <;> simp [h]
theorem setO_2 {I : FI} {o : Nat} {f g : Nat → Int32} : setO (setO I o f) o g = setO I o g := by funext a; unfold setO; by_cases h : a = o <;> simp [h]
theorem up2_setO {I : FI} {o k : Nat} {f : Nat → Int32} {x : Int32} : up2 (setO I o f) o k x = setO I o (upd f k x) := by
  funext a j
  unfold up2 setO upd
  by_cases h : a = o <;> simp [h]
theorem up2_eq {I : FI} {o k : Nat} {x : Int32} : up2 I o k x = setO I o (upd (I o) k x) := by
  funext a j
  unfold up2 setO upd
  by_cases h : a = o <;> simp [h]
theorem setO_up {I : FI} {o : Nat} : setO I o (I o) = I := setO_self
/-- a tree: kind, number, knows, apples, ripe -/
def mkT (k n w a r : Int32) : Nat → Int32 := fun j => match j with
  | 0 => k
  | 1 => n
  | 2 => w
  | 3 => a
  | 4 => r
  | _ => 0
/-- the first five places of one, the rest of the other -/
def cp5 (f g : Nat → Int32) : Nat → Int32 := fun j => if j < 5 then f j else g j

set_option maxRecDepth 100000 in
set_option maxHeartbeats 4000000 in
theorem E_Tbegin {X : En} {S : Sh} {I : FI} {L : FL} {R : FR} {o : Nat} (h1 : S[o]? = some (5, 5)) (kd nu : Int32) : Ev X 0 mX5_begin (0, 0) [.ref o, .int kd, .int nu] S I L R (PureR (none) S (setO I o (cp5 (mkT kd nu 0 50 0) (I o))) L R) := by
  refine ev_of (by decide +kernel) rfl ?_
  show SW X _ _ _ 0 [some (.ref o), some (.int kd), some (.int nu)] [] S I L R _
  refine s_aload_n (tb_ok aX5_begin_0 0 rfl) rfl ?_
  refine s_iload_n (tb_ok aX5_begin_0 1 rfl) rfl ?_
  refine s_putI (tb_ok aX5_begin_0 2 rfl) f_RX5_9 h1 rfl ?_
  refine s_aload_n (tb_ok aX5_begin_0 3 rfl) rfl ?_
  refine s_iload_n (tb_ok aX5_begin_0 4 rfl) rfl ?_
  refine s_putI (tb_ok aX5_begin_0 5 rfl) f_RX5_15 h1 rfl ?_
  refine s_aload_n (tb_ok aX5_begin_0 6 rfl) rfl ?_
  refine s_iconst (v := 0) (tb_ok aX5_begin_0 7 rfl) (by decide) ?_
  refine s_putI (tb_ok aX5_begin_0 8 rfl) f_RX5_18 h1 rfl ?_
  refine s_aload_n (tb_ok aX5_begin_0 9 rfl) rfl ?_
  refine s_bipush (v := 50) (tb_ok aX5_begin_0 10 rfl) (by decide) ?_
  refine s_putI (tb_ok aX5_begin_0 11 rfl) f_RX5_21 h1 rfl ?_
  refine s_aload_n (tb_ok aX5_begin_0 12 rfl) rfl ?_
  refine s_iconst (v := 0) (tb_ok aX5_begin_0 13 rfl) (by decide) ?_
  refine s_putI (tb_ok aX5_begin_0 14 rfl) f_RX5_24 h1 rfl ?_
  refine s_vret (tb_ok aX5_begin_0 15 rfl) rfl ?_
  have e : up2 (up2 (up2 (up2 (up2 I o 0 kd) o 1 nu) o 2 0) o 3 50) o 4 0 = setO I o (cp5 (mkT kd nu 0 50 0) (I o)) := by
    funext a j
    by_cases ha : a = o
    · subst ha; match j with
      | 0 => simp [up2, setO, cp5, mkT]
      | 1 => simp [up2, setO, cp5, mkT]
      | 2 => simp [up2, setO, cp5, mkT]
      | 3 => simp [up2, setO, cp5, mkT]
      | 4 => simp [up2, setO, cp5, mkT]
      | n + 5 => simp [up2, setO, cp5, show ¬ n + 5 < 5 by omega]
    · simp [up2, setO, ha]
  rw [e]
  exact pureR

set_option maxRecDepth 100000 in
set_option maxHeartbeats 4000000 in
theorem E_Tbecome {X : En} {S : Sh} {I : FI} {L : FL} {R : FR} {o : Nat} (h1 : S[o]? = some (5, 5)) {p : Nat} (h2 : S[p]? = some (5, 5)) : Ev X 0 mX5_become (0, 0) [.ref o, .ref p] S I L R (PureR (none) S (setO I o (cp5 (I p) (I o))) L R) := by
  refine ev_of (by decide +kernel) rfl ?_
  show SW X _ _ _ 0 [some (.ref o), some (.ref p)] [] S I L R _
  refine s_aload_n (tb_ok aX5_become_0 0 rfl) rfl ?_
  refine s_aload_n (tb_ok aX5_become_0 1 rfl) rfl ?_
  refine s_getI (tb_ok aX5_become_0 2 rfl) f_RX5_9 h2 rfl rfl ?_
  refine s_putI (tb_ok aX5_become_0 3 rfl) f_RX5_9 h1 rfl ?_
  refine s_aload_n (tb_ok aX5_become_0 4 rfl) rfl ?_
  refine s_aload_n (tb_ok aX5_become_0 5 rfl) rfl ?_
  refine s_getI (tb_ok aX5_become_0 6 rfl) f_RX5_15 h2 rfl rfl ?_
  refine s_putI (tb_ok aX5_become_0 7 rfl) f_RX5_15 h1 rfl ?_
  refine s_aload_n (tb_ok aX5_become_0 8 rfl) rfl ?_
  refine s_aload_n (tb_ok aX5_become_0 9 rfl) rfl ?_
  refine s_getI (tb_ok aX5_become_0 10 rfl) f_RX5_18 h2 rfl rfl ?_
  refine s_putI (tb_ok aX5_become_0 11 rfl) f_RX5_18 h1 rfl ?_
  refine s_aload_n (tb_ok aX5_become_0 12 rfl) rfl ?_
  refine s_aload_n (tb_ok aX5_become_0 13 rfl) rfl ?_
  refine s_getI (tb_ok aX5_become_0 14 rfl) f_RX5_21 h2 rfl rfl ?_
  refine s_putI (tb_ok aX5_become_0 15 rfl) f_RX5_21 h1 rfl ?_
  refine s_aload_n (tb_ok aX5_become_0 16 rfl) rfl ?_
  refine s_aload_n (tb_ok aX5_become_0 17 rfl) rfl ?_
  refine s_getI (tb_ok aX5_become_0 18 rfl) f_RX5_24 h2 rfl rfl ?_
  refine s_putI (tb_ok aX5_become_0 19 rfl) f_RX5_24 h1 rfl ?_
  refine s_vret (tb_ok aX5_become_0 20 rfl) rfl ?_
  refine ⟨rfl, rfl, ?_, rfl, rfl⟩
  funext a j
  by_cases ha : a = o
  · subst ha
    by_cases hp : p = a
    · subst hp; match j with
      | 0 => simp [up2, setO, cp5]
      | 1 => simp [up2, setO, cp5]
      | 2 => simp [up2, setO, cp5]
      | 3 => simp [up2, setO, cp5]
      | 4 => simp [up2, setO, cp5]
      | n + 5 => simp [up2, setO, cp5, show ¬ n + 5 < 5 by omega]
    · match j with
      | 0 => simp [up2, setO, cp5, hp]
      | 1 => simp [up2, setO, cp5, hp]
      | 2 => simp [up2, setO, cp5, hp]
      | 3 => simp [up2, setO, cp5, hp]
      | 4 => simp [up2, setO, cp5, hp]
      | n + 5 => simp [up2, setO, cp5, show ¬ n + 5 < 5 by omega]
  · simp [up2, setO, ha]

set_option maxRecDepth 100000 in
set_option maxHeartbeats 4000000 in
theorem E_isKnown {X : En} {S : Sh} {I : FI} {L : FL} {R : FR} {o : Nat} (h1 : S[o]? = some (5, 5)) (f : Int32) : Ev X 0 mX5_isKnown (0, 0) [.ref o, .int f] S I L R (PureR (some (.int (bI (¬ ((I o 2) >>> (f &&& 31)) &&& 1 = 0)))) S I L R) := by
  refine ev_of (by decide +kernel) rfl ?_
  show SW X _ _ _ 0 [some (.ref o), some (.int f)] [] S I L R _
  refine s_aload_n (tb_ok aX5_isKnown_0 0 rfl) rfl ?_
  refine s_getI (tb_ok aX5_isKnown_0 1 rfl) f_RX5_18 h1 rfl rfl ?_
  refine s_iload_n (tb_ok aX5_isKnown_0 2 rfl) rfl ?_
  refine s_ishr (tb_ok aX5_isKnown_0 3 rfl) ?_
  refine s_iconst (v := 1) (tb_ok aX5_isKnown_0 4 rfl) (by decide) ?_
  refine s_iand (tb_ok aX5_isKnown_0 5 rfl) ?_
  refine s_if_eq (tgt := 15) (tb_ok aX5_isKnown_0 6 rfl) (by decide) (fun c8 => ?_) (fun c8 => ?_)
  · refine s_iconst (v := 0) (tb_ok aX5_isKnown_0 9 rfl) (by decide) ?_
    refine s_zret (tb_ok aX5_isKnown_0 10 rfl) rfl ?_ ?_
    first | exact Or.inl rfl | exact Or.inr rfl
    exact pureE (congrArg (fun z => some (Value.int z)) (bI_f (by simp_all)).symm)
  · refine s_iconst (v := 1) (tb_ok aX5_isKnown_0 7 rfl) (by decide) ?_
    refine s_goto (tgt := 16) (tb_ok aX5_isKnown_0 8 rfl) (by decide) ?_
    refine s_zret (tb_ok aX5_isKnown_0 10 rfl) rfl ?_ ?_
    first | exact Or.inl rfl | exact Or.inr rfl
    exact pureE (congrArg (fun z => some (Value.int z)) (bI_t (by simp_all)).symm)

def tNum (f : Nat → Int32) (x : Int32) : Int32 := if x = 1 then f 1 else if x = 2 then f 2 else if x = 3 then f 3 else f 4
set_option maxRecDepth 100000 in
set_option maxHeartbeats 4000000 in
theorem E_Tnumber {X : En} {S : Sh} {I : FI} {L : FL} {R : FR} {o : Nat} (h1 : S[o]? = some (5, 5)) (x : Int32) : Ev X 0 mX5_number (0, 0) [.ref o, .int x] S I L R (PureR (some (.int (tNum (I o) x))) S I L R) := by
  refine ev_of (by decide +kernel) rfl ?_
  show SW X _ _ _ 0 [some (.ref o), some (.int x)] [] S I L R _
  refine s_iload_n (tb_ok aX5_number_0 0 rfl) rfl ?_
  by_cases e1 : x = 1
  · subst e1
    refine s_tableIn (off := 27) (tgt := 28) (tb_ok aX5_number_0 1 rfl) (by decide) (by decide) rfl (by decide) ?_
    refine s_aload_n (tb_ok aX5_number_0 2 rfl) rfl ?_
    refine s_getI (tb_ok aX5_number_0 3 rfl) f_RX5_15 h1 rfl rfl ?_
    refine s_iret (tb_ok aX5_number_0 4 rfl) rfl ?_
    exact pureE (by first | rfl | simp [tNum, *])
  by_cases e2 : x = 2
  · subst e2
    refine s_tableIn (off := 32) (tgt := 33) (tb_ok aX5_number_0 1 rfl) (by decide) (by decide) rfl (by decide) ?_
    refine s_aload_n (tb_ok aX5_number_0 5 rfl) rfl ?_
    refine s_getI (tb_ok aX5_number_0 6 rfl) f_RX5_18 h1 rfl rfl ?_
    refine s_iret (tb_ok aX5_number_0 7 rfl) rfl ?_
    exact pureE (by first | rfl | simp [tNum, *])
  by_cases e3 : x = 3
  · subst e3
    refine s_tableIn (off := 37) (tgt := 38) (tb_ok aX5_number_0 1 rfl) (by decide) (by decide) rfl (by decide) ?_
    refine s_aload_n (tb_ok aX5_number_0 8 rfl) rfl ?_
    refine s_getI (tb_ok aX5_number_0 9 rfl) f_RX5_21 h1 rfl rfl ?_
    refine s_iret (tb_ok aX5_number_0 10 rfl) rfl ?_
    exact pureE (by first | rfl | simp [tNum, *])
  · refine s_tableOut (tgt := 43) (tb_ok aX5_number_0 1 rfl) ?_ (by decide) ?_
    · by_cases h : x.toInt < 1
      · exact Or.inl h
      · by_cases h2 : 3 < x.toInt
        · exact Or.inr h2
        · exfalso
          have q1 : ¬ x.toInt = 1 := fun h => e1 (Int32.toInt_inj.mp h)
          have q2 : ¬ x.toInt = 2 := fun h => e2 (Int32.toInt_inj.mp h)
          have q3 : ¬ x.toInt = 3 := fun h => e3 (Int32.toInt_inj.mp h)
          omega
    · refine s_aload_n (tb_ok aX5_number_0 11 rfl) rfl ?_
      refine s_getI (tb_ok aX5_number_0 12 rfl) f_RX5_24 h1 rfl rfl ?_
      refine s_iret (tb_ok aX5_number_0 13 rfl) rfl ?_
      exact pureE (by first | rfl | simp [tNum, *])

def tChg (f : Nat → Int32) (x v : Int32) : Nat → Int32 := if x = 1 then upd f 1 v else if x = 2 then upd f 2 v else if x = 3 then upd f 3 v else if x = 4 then upd f 4 v else if x = 5 then upd f 0 v else upd f 2 (f 2 ^^^ ((1 : Int32) <<< (v &&& 31)))
set_option maxRecDepth 100000 in
set_option maxHeartbeats 4000000 in
theorem E_Tchange {X : En} {S : Sh} {I : FI} {L : FL} {R : FR} {o : Nat} (h1 : S[o]? = some (5, 5)) (x v : Int32) : Ev X 0 mX5_change (0, 0) [.ref o, .int x, .int v] S I L R (PureR (none) S (setO I o (tChg (I o) x v)) L R) := by
  refine ev_of (by decide +kernel) rfl ?_
  show SW X _ _ _ 0 [some (.ref o), some (.int x), some (.int v)] [] S I L R _
  refine s_iload_n (tb_ok aX5_change_0 0 rfl) rfl ?_
  by_cases e1 : x = 1
  · subst e1
    refine s_tableIn (off := 35) (tgt := 36) (tb_ok aX5_change_0 1 rfl) (by decide) (by decide) rfl (by decide) ?_
    refine s_aload_n (tb_ok aX5_change_0 2 rfl) rfl ?_
    refine s_iload_n (tb_ok aX5_change_0 3 rfl) rfl ?_
    refine s_putI (tb_ok aX5_change_0 4 rfl) f_RX5_15 h1 rfl ?_
    refine s_goto (tgt := 88) (tb_ok aX5_change_0 5 rfl) (by decide) ?_
    refine s_vret (tb_ok aX5_change_1 6 rfl) rfl ?_
    rw [up2_eq]
    first | exact pureR | (simp only [tChg, *, if_false, if_true]; exact pureR)
  by_cases e2 : x = 2
  · subst e2
    refine s_tableIn (off := 43) (tgt := 44) (tb_ok aX5_change_0 1 rfl) (by decide) (by decide) rfl (by decide) ?_
    refine s_aload_n (tb_ok aX5_change_0 6 rfl) rfl ?_
    refine s_iload_n (tb_ok aX5_change_0 7 rfl) rfl ?_
    refine s_putI (tb_ok aX5_change_0 8 rfl) f_RX5_18 h1 rfl ?_
    refine s_goto (tgt := 88) (tb_ok aX5_change_0 9 rfl) (by decide) ?_
    refine s_vret (tb_ok aX5_change_1 6 rfl) rfl ?_
    rw [up2_eq]
    first | exact pureR | (simp only [tChg, *, if_false, if_true]; exact pureR)
  by_cases e3 : x = 3
  · subst e3
    refine s_tableIn (off := 51) (tgt := 52) (tb_ok aX5_change_0 1 rfl) (by decide) (by decide) rfl (by decide) ?_
    refine s_aload_n (tb_ok aX5_change_0 10 rfl) rfl ?_
    refine s_iload_n (tb_ok aX5_change_0 11 rfl) rfl ?_
    refine s_putI (tb_ok aX5_change_0 12 rfl) f_RX5_21 h1 rfl ?_
    refine s_goto (tgt := 88) (tb_ok aX5_change_0 13 rfl) (by decide) ?_
    refine s_vret (tb_ok aX5_change_1 6 rfl) rfl ?_
    rw [up2_eq]
    first | exact pureR | (simp only [tChg, *, if_false, if_true]; exact pureR)
  by_cases e4 : x = 4
  · subst e4
    refine s_tableIn (off := 59) (tgt := 60) (tb_ok aX5_change_0 1 rfl) (by decide) (by decide) rfl (by decide) ?_
    refine s_aload_n (tb_ok aX5_change_0 14 rfl) rfl ?_
    refine s_iload_n (tb_ok aX5_change_0 15 rfl) rfl ?_
    refine s_putI (tb_ok aX5_change_0 16 rfl) f_RX5_24 h1 rfl ?_
    refine s_goto (tgt := 88) (tb_ok aX5_change_0 17 rfl) (by decide) ?_
    refine s_vret (tb_ok aX5_change_1 6 rfl) rfl ?_
    rw [up2_eq]
    first | exact pureR | (simp only [tChg, *, if_false, if_true]; exact pureR)
  by_cases e5 : x = 5
  · subst e5
    refine s_tableIn (off := 67) (tgt := 68) (tb_ok aX5_change_0 1 rfl) (by decide) (by decide) rfl (by decide) ?_
    refine s_aload_n (tb_ok aX5_change_0 18 rfl) rfl ?_
    refine s_iload_n (tb_ok aX5_change_0 19 rfl) rfl ?_
    refine s_putI (tb_ok aX5_change_0 20 rfl) f_RX5_9 h1 rfl ?_
    refine s_goto (tgt := 88) (tb_ok aX5_change_0 21 rfl) (by decide) ?_
    refine s_vret (tb_ok aX5_change_1 6 rfl) rfl ?_
    rw [up2_eq]
    first | exact pureR | (simp only [tChg, *, if_false, if_true]; exact pureR)
  · refine s_tableOut (tgt := 76) (tb_ok aX5_change_0 1 rfl) ?_ (by decide) ?_
    · by_cases h : x.toInt < 1
      · exact Or.inl h
      · by_cases h2 : 5 < x.toInt
        · exact Or.inr h2
        · exfalso
          have q1 : ¬ x.toInt = 1 := fun h => e1 (Int32.toInt_inj.mp h)
          have q2 : ¬ x.toInt = 2 := fun h => e2 (Int32.toInt_inj.mp h)
          have q3 : ¬ x.toInt = 3 := fun h => e3 (Int32.toInt_inj.mp h)
          have q4 : ¬ x.toInt = 4 := fun h => e4 (Int32.toInt_inj.mp h)
          have q5 : ¬ x.toInt = 5 := fun h => e5 (Int32.toInt_inj.mp h)
          omega
    · refine s_aload_n (tb_ok aX5_change_0 22 rfl) rfl ?_
      refine s_dup (tb_ok aX5_change_0 23 rfl) rfl ?_
      refine s_getI (tb_ok aX5_change_1 0 rfl) f_RX5_18 h1 rfl rfl ?_
      refine s_iconst (v := 1) (tb_ok aX5_change_1 1 rfl) (by decide) ?_
      refine s_iload_n (tb_ok aX5_change_1 2 rfl) rfl ?_
      refine s_ishl (tb_ok aX5_change_1 3 rfl) ?_
      refine s_ixor (tb_ok aX5_change_1 4 rfl) ?_
      refine s_putI (tb_ok aX5_change_1 5 rfl) f_RX5_18 h1 rfl ?_
      refine s_vret (tb_ok aX5_change_1 6 rfl) rfl ?_
      rw [up2_eq]
      first | exact pureR | (simp only [tChg, *, if_false, if_true]; exact pureR)

def isRow (S : Sh) (R : FR) (o : Nat) : Prop := S[o]? = some (3, 3) ∧ R o 0 = some (o + 1) ∧ S[o + 1]? = some (9, 40)
def cvt (sort v : Int32) : Int32 := if sort = 0 then v.toInt8.toInt32 else if sort = 1 then v.toInt16.toInt32 else v
def zr40 (f : Nat → Int32) (k : Nat) : Nat → Int32 := fun j => if j < k then 0 else f j
theorem zr_s {f : Nat → Int32} {k : Nat} : upd (zr40 f k) k 0 = zr40 f (k + 1) := by
  funext j
  unfold upd zr40
  by_cases h : j = k
  · subst h; simp
  · have : j < k + 1 ↔ j < k := by omega
    simp [h, this]
theorem zr_0 {f : Nat → Int32} : zr40 f 0 = f := by funext j; simp [zr40]
set_option maxRecDepth 100000 in
set_option maxHeartbeats 4000000 in
theorem E_isMissing {X : En} {S : Sh} {I : FI} {L : FL} {R : FR} {o : Nat} (hR : isRow S R o) : Ev X 0 mX3_isMissing (0, 0) [.ref o] S I L R (PureR (some (.int (bI (I o 1 = -1)))) S I L R) := by
  obtain ⟨h1, h2, h3⟩ := id hR
  refine ev_of (by decide +kernel) rfl ?_
  show SW X _ _ _ 0 [some (.ref o)] [] S I L R _
  refine s_aload_n (tb_ok aX3_isMissing_0 0 rfl) rfl ?_
  refine s_getI (tb_ok aX3_isMissing_0 1 rfl) f_RX3_15 h1 rfl rfl ?_
  refine s_iconst (v := -1) (tb_ok aX3_isMissing_0 2 rfl) (by decide) ?_
  refine s_icmp_ne (tgt := 12) (tb_ok aX3_isMissing_0 3 rfl) (by decide) (fun c5 => ?_) (fun c5 => ?_)
  · refine s_iconst (v := 0) (tb_ok aX3_isMissing_0 6 rfl) (by decide) ?_
    refine s_zret (tb_ok aX3_isMissing_0 7 rfl) rfl ?_ ?_
    first | exact Or.inl rfl | exact Or.inr rfl
    exact pureE (congrArg (fun z => some (Value.int z)) (bI_f (by simp_all)).symm)
  · refine s_iconst (v := 1) (tb_ok aX3_isMissing_0 4 rfl) (by decide) ?_
    refine s_goto (tgt := 13) (tb_ok aX3_isMissing_0 5 rfl) (by decide) ?_
    refine s_zret (tb_ok aX3_isMissing_0 7 rfl) rfl ?_ ?_
    first | exact Or.inl rfl | exact Or.inr rfl
    exact pureE (congrArg (fun z => some (Value.int z)) (bI_t (by simp_all)).symm)

set_option maxRecDepth 100000 in
set_option maxHeartbeats 4000000 in
theorem E_Rhas {X : En} {S : Sh} {I : FI} {L : FL} {R : FR} {o : Nat} (hR : isRow S R o) (i : Int32) : Ev X 0 mX3_has (0, 0) [.ref o, .int i] S I L R (PureR (some (.int (bI (¬ i < 0 ∧ i < I o 2 ∧ i < nI 40)))) S I L R) := by
  obtain ⟨h1, h2, h3⟩ := id hR
  refine ev_of (by decide +kernel) rfl ?_
  show SW X _ _ _ 0 [some (.ref o), some (.int i)] [] S I L R _
  refine s_iload_n (tb_ok aX3_has_0 0 rfl) rfl ?_
  refine s_if_lt (tgt := 22) (tb_ok aX3_has_0 1 rfl) (by decide) (fun c1 => ?_) (fun c1 => ?_)
  · refine s_iconst (v := 0) (tb_ok aX3_has_0 11 rfl) (by decide) ?_
    refine s_zret (tb_ok aX3_has_0 12 rfl) rfl ?_ ?_
    first | exact Or.inl rfl | exact Or.inr rfl
    exact pureE (congrArg (fun z => some (Value.int z)) (bI_f (by simp only [Int32.lt_iff_toInt_lt, Int32.le_iff_toInt_le] at *; omega)).symm)
  · refine s_iload_n (tb_ok aX3_has_0 2 rfl) rfl ?_
    refine s_aload_n (tb_ok aX3_has_0 3 rfl) rfl ?_
    refine s_getI (tb_ok aX3_has_0 4 rfl) f_RX3_19 h1 rfl rfl ?_
    refine s_icmp_ge (tgt := 22) (tb_ok aX3_has_0 5 rfl) (by decide) (fun c9 => ?_) (fun c9 => ?_)
    · refine s_iconst (v := 0) (tb_ok aX3_has_0 11 rfl) (by decide) ?_
      refine s_zret (tb_ok aX3_has_0 12 rfl) rfl ?_ ?_
      first | exact Or.inl rfl | exact Or.inr rfl
      exact pureE (congrArg (fun z => some (Value.int z)) (bI_f (by simp only [Int32.lt_iff_toInt_lt, Int32.le_iff_toInt_le] at *; omega)).symm)
    · refine s_iload_n (tb_ok aX3_has_0 6 rfl) rfl ?_
      refine s_bipush (v := nI 40) (tb_ok aX3_has_0 7 rfl) (by decide) ?_
      refine s_icmp_ge (tgt := 22) (tb_ok aX3_has_0 8 rfl) (by decide) (fun c15 => ?_) (fun c15 => ?_)
      · refine s_iconst (v := 0) (tb_ok aX3_has_0 11 rfl) (by decide) ?_
        refine s_zret (tb_ok aX3_has_0 12 rfl) rfl ?_ ?_
        first | exact Or.inl rfl | exact Or.inr rfl
        exact pureE (congrArg (fun z => some (Value.int z)) (bI_f (by simp only [Int32.lt_iff_toInt_lt, Int32.le_iff_toInt_le] at *; omega)).symm)
      · refine s_iconst (v := 1) (tb_ok aX3_has_0 9 rfl) (by decide) ?_
        refine s_goto (tgt := 23) (tb_ok aX3_has_0 10 rfl) (by decide) ?_
        refine s_zret (tb_ok aX3_has_0 12 rfl) rfl ?_ ?_
        first | exact Or.inl rfl | exact Or.inr rfl
        exact pureE (congrArg (fun z => some (Value.int z)) (bI_t (by simp only [Int32.lt_iff_toInt_lt, Int32.le_iff_toInt_le] at *; omega)).symm)

set_option maxRecDepth 100000 in
set_option maxHeartbeats 4000000 in
theorem E_RhasAll {X : En} {S : Sh} {I : FI} {L : FL} {R : FR} {o : Nat} (hR : isRow S R o) (i n : Int32) : Ev X 0 mX3_hasAll (0, 0) [.ref o, .int i, .int n] S I L R (PureR (some (.int (bI (¬ n < 0 ∧ ¬ i < 0 ∧ i ≤ I o 2 - n ∧ i ≤ nI 40 - n)))) S I L R) := by
  obtain ⟨h1, h2, h3⟩ := id hR
  refine ev_of (by decide +kernel) rfl ?_
  show SW X _ _ _ 0 [some (.ref o), some (.int i), some (.int n)] [] S I L R _
  refine s_iload_n (tb_ok aX3_hasAll_0 0 rfl) rfl ?_
  refine s_if_lt (tgt := 30) (tb_ok aX3_hasAll_0 1 rfl) (by decide) (fun c1 => ?_) (fun c1 => ?_)
  · refine s_iconst (v := 0) (tb_ok aX3_hasAll_0 17 rfl) (by decide) ?_
    refine s_zret (tb_ok aX3_hasAll_0 18 rfl) rfl ?_ ?_
    first | exact Or.inl rfl | exact Or.inr rfl
    exact pureE (congrArg (fun z => some (Value.int z)) (bI_f (by simp only [Int32.lt_iff_toInt_lt, Int32.le_iff_toInt_le] at *; omega)).symm)
  · refine s_iload_n (tb_ok aX3_hasAll_0 2 rfl) rfl ?_
    refine s_if_lt (tgt := 30) (tb_ok aX3_hasAll_0 3 rfl) (by decide) (fun c5 => ?_) (fun c5 => ?_)
    · refine s_iconst (v := 0) (tb_ok aX3_hasAll_0 17 rfl) (by decide) ?_
      refine s_zret (tb_ok aX3_hasAll_0 18 rfl) rfl ?_ ?_
      first | exact Or.inl rfl | exact Or.inr rfl
      exact pureE (congrArg (fun z => some (Value.int z)) (bI_f (by simp only [Int32.lt_iff_toInt_lt, Int32.le_iff_toInt_le] at *; omega)).symm)
    · refine s_iload_n (tb_ok aX3_hasAll_0 4 rfl) rfl ?_
      refine s_aload_n (tb_ok aX3_hasAll_0 5 rfl) rfl ?_
      refine s_getI (tb_ok aX3_hasAll_0 6 rfl) f_RX3_19 h1 rfl rfl ?_
      refine s_iload_n (tb_ok aX3_hasAll_0 7 rfl) rfl ?_
      refine s_isub (tb_ok aX3_hasAll_0 8 rfl) ?_
      refine s_icmp_gt (tgt := 30) (tb_ok aX3_hasAll_0 9 rfl) (by decide) (fun c15 => ?_) (fun c15 => ?_)
      · refine s_iconst (v := 0) (tb_ok aX3_hasAll_0 17 rfl) (by decide) ?_
        refine s_zret (tb_ok aX3_hasAll_0 18 rfl) rfl ?_ ?_
        first | exact Or.inl rfl | exact Or.inr rfl
        exact pureE (congrArg (fun z => some (Value.int z)) (bI_f (by simp only [Int32.lt_iff_toInt_lt, Int32.le_iff_toInt_le] at *; omega)).symm)
      · refine s_iload_n (tb_ok aX3_hasAll_0 10 rfl) rfl ?_
        refine s_bipush (v := nI 40) (tb_ok aX3_hasAll_0 11 rfl) (by decide) ?_
        refine s_iload_n (tb_ok aX3_hasAll_0 12 rfl) rfl ?_
        refine s_isub (tb_ok aX3_hasAll_0 13 rfl) ?_
        refine s_icmp_gt (tgt := 30) (tb_ok aX3_hasAll_0 14 rfl) (by decide) (fun c23 => ?_) (fun c23 => ?_)
        · refine s_iconst (v := 0) (tb_ok aX3_hasAll_0 17 rfl) (by decide) ?_
          refine s_zret (tb_ok aX3_hasAll_0 18 rfl) rfl ?_ ?_
          first | exact Or.inl rfl | exact Or.inr rfl
          exact pureE (congrArg (fun z => some (Value.int z)) (bI_f (by simp only [Int32.lt_iff_toInt_lt, Int32.le_iff_toInt_le] at *; omega)).symm)
        · refine s_iconst (v := 1) (tb_ok aX3_hasAll_0 15 rfl) (by decide) ?_
          refine s_goto (tgt := 31) (tb_ok aX3_hasAll_0 16 rfl) (by decide) ?_
          refine s_zret (tb_ok aX3_hasAll_0 18 rfl) rfl ?_ ?_
          first | exact Or.inl rfl | exact Or.inr rfl
          exact pureE (congrArg (fun z => some (Value.int z)) (bI_t (by simp only [Int32.lt_iff_toInt_lt, Int32.le_iff_toInt_le] at *; omega)).symm)

set_option maxRecDepth 100000 in
set_option maxHeartbeats 4000000 in
theorem E_Rbegin {X : En} {S : Sh} {I : FI} {L : FL} {R : FR} {o : Nat} (hR : isRow S R o) (so sz : Int32) : Ev X 0 mX3_begin (0, 0) [.ref o, .int so, .int sz] S I L R (PureR (none) S (setO (setO I o (upd (upd (I o) 1 so) 2 sz)) (o + 1) (zr40 (I (o + 1)) 40)) L R) := by
  obtain ⟨h1, h2, h3⟩ := id hR
  have loop : ∀ k, k ≤ 40 → SW X 0 mX3_begin (0, 0) 12 [some (.ref o), some (.int so), some (.int sz), some (.int (nI k))] [] S (setO (setO I o (upd (upd (I o) 1 so) 2 sz)) (o + 1) (zr40 (I (o + 1)) k)) L R (KQ X (PureR none S (setO (setO I o (upd (upd (I o) 1 so) 2 sz)) (o + 1) (zr40 (I (o + 1)) 40)) L R)) := by
    refine for_up (P := fun k => SW X 0 mX3_begin (0, 0) 12 [some (.ref o), some (.int so), some (.int sz), some (.int (nI k))] [] S (setO (setO I o (upd (upd (I o) 1 so) 2 sz)) (o + 1) (zr40 (I (o + 1)) k)) L R (KQ X (PureR none S (setO (setO I o (upd (upd (I o) 1 so) 2 sz)) (o + 1) (zr40 (I (o + 1)) 40)) L R))) 40 ?_ ?_
    · refine s_iload_n (tb_ok aX3_begin_0 8 rfl) rfl ?_
      refine s_bipush (v := nI 40) (tb_ok aX3_begin_0 9 rfl) (by decide) ?_
      refine s_icmp_ge (tgt := 31) (tb_ok aX3_begin_0 10 rfl) (by decide) (fun c15 => ?_) (fun c15 => ?_)
      · refine s_vret (tb_ok aX3_begin_0 18 rfl) rfl ?_
        exact pureR
      · simp (disch := omega) only [nI_ltI, nI_leI, nI_eq] at c15
        omega
    · intro k hk ih
      refine s_iload_n (tb_ok aX3_begin_0 8 rfl) rfl ?_
      refine s_bipush (v := nI 40) (tb_ok aX3_begin_0 9 rfl) (by decide) ?_
      refine s_icmp_ge (tgt := 31) (tb_ok aX3_begin_0 10 rfl) (by decide) (fun c15 => ?_) (fun c15 => ?_)
      · simp (disch := omega) only [nI_ltI, nI_leI, nI_eq] at c15
        omega
      · refine s_aload_n (tb_ok aX3_begin_0 11 rfl) rfl ?_
        refine s_getR (r := (o + 1)) (tb_ok aX3_begin_0 12 rfl) f_RX3_9 h1 rfl h2 ?_
        refine s_iload_n (tb_ok aX3_begin_0 13 rfl) rfl ?_
        refine s_iconst (v := 0) (tb_ok aX3_begin_0 14 rfl) (by decide) ?_
        refine s_iastN (tb_ok aX3_begin_0 15 rfl) h3 (by omega) (by decide) ?_
        refine s_iinc (v := nI (k + 1)) (ls' := [some (.ref o), some (.int so), some (.int sz), some (.int (nI (k + 1)))]) (tb_ok aX3_begin_0 16 rfl) rfl (nI_1 _) rfl rfl ?_
        refine s_goto (tgt := 12) (tb_ok aX3_begin_0 17 rfl) (by decide) ?_
        rw [up2_setO, zr_s]
        exact ih
  refine ev_of (by decide +kernel) rfl ?_
  show SW X _ _ _ 0 [some (.ref o), some (.int so), some (.int sz), none] [] S I L R _
  refine s_aload_n (tb_ok aX3_begin_0 0 rfl) rfl ?_
  refine s_iload_n (tb_ok aX3_begin_0 1 rfl) rfl ?_
  refine s_putI (tb_ok aX3_begin_0 2 rfl) f_RX3_15 h1 rfl ?_
  refine s_aload_n (tb_ok aX3_begin_0 3 rfl) rfl ?_
  refine s_iload_n (tb_ok aX3_begin_0 4 rfl) rfl ?_
  refine s_putI (tb_ok aX3_begin_0 5 rfl) f_RX3_19 h1 rfl ?_
  refine s_iconst (v := nI 0) (tb_ok aX3_begin_0 6 rfl) (by decide) ?_
  refine s_istore_n (ls' := [some (.ref o), some (.int so), some (.int sz), some (.int (nI 0))]) (tb_ok aX3_begin_0 7 rfl) rfl rfl ?_
  refine s_eqI (I' := (setO (setO I o (upd (upd (I o) 1 so) 2 sz)) (o + 1) (zr40 (I (o + 1)) 0))) ?_ (loop 0 (Nat.zero_le _))
  rw [zr_0, up2_eq (I := I), up2_setO]
  have e : setO I o (upd (upd (I o) 1 so) 2 sz) (o + 1) = I (o + 1) := setO_n (by omega)
  rw [← e, setO_self]

theorem hasI {i sz : Int32} {N : Nat} (hN : N < 2 ^ 31) (h : ¬ i < 0 ∧ i < sz ∧ i < nI N) : vp_in i N := by
  obtain ⟨j, hj, rfl⟩ := nI_of h.1
  have h2 : j < N := (nI_ltI hj hN).mp h.2.2
  exact vp_in_nI h2 hN
set_option maxRecDepth 100000 in
set_option maxHeartbeats 4000000 in
theorem E_Rput {X : En} {S : Sh} {I : FI} {L : FL} {R : FR} {o : Nat} (hR : isRow S R o) (i v : Int32) : Ev X 1 mX3_put (0, 0) [.ref o, .int i, .int v] S I L R (PureR (none) S (if ¬ i < 0 ∧ i < I o 2 ∧ i < nI 40 then up2 I (o + 1) i.toNatClampNeg (cvt (I o 1) v) else I) L R) := by
  obtain ⟨h1, h2, h3⟩ := id hR
  refine ev_of (by decide +kernel) rfl ?_
  show SW X _ _ _ 0 [some (.ref o), some (.int i), some (.int v)] [] S I L R _
  refine s_aload_n (tb_ok aX3_put_0 0 rfl) rfl ?_
  refine s_iload_n (tb_ok aX3_put_0 1 rfl) rfl ?_
  refine s_cVp (as := [.int i]) (tb_ok aX3_put_0 2 rfl) v_RX3_22 (E_Rhas hR i) (by decide) h1 rfl rfl rfl rfl (Nat.le_of_ble_eq_true rfl) (by decide) ?_
  refine s_if_eq (tgt := 40) (tb_ok aX3_put_0 3 rfl) (by decide) (fun c5 => ?_) (fun c5 => ?_)
  · refine s_vret (tb_ok aX3_put_0 22 rfl) rfl ?_
    refine ⟨rfl, rfl, ?_, rfl, rfl⟩
    first | (rw [if_neg (bI_0.mp c5)]; done) | (rw [if_pos hb]; simp [cvt, *])
  · have hb := Decidable.not_not.mp (fun h => c5 (bI_f h))
    refine s_aload_n (tb_ok aX3_put_0 4 rfl) rfl ?_
    refine s_getR (r := (o + 1)) (tb_ok aX3_put_0 5 rfl) f_RX3_9 h1 rfl h2 ?_
    refine s_iload_n (tb_ok aX3_put_0 6 rfl) rfl ?_
    refine s_aload_n (tb_ok aX3_put_0 7 rfl) rfl ?_
    refine s_getI (tb_ok aX3_put_0 8 rfl) f_RX3_15 h1 rfl rfl ?_
    refine s_if_ne (tgt := 25) (tb_ok aX3_put_0 9 rfl) (by decide) (fun c17 => ?_) (fun c17 => ?_)
    · refine s_aload_n (tb_ok aX3_put_0 13 rfl) rfl ?_
      refine s_getI (tb_ok aX3_put_0 14 rfl) f_RX3_15 h1 rfl rfl ?_
      refine s_iconst (v := 1) (tb_ok aX3_put_0 15 rfl) (by decide) ?_
      refine s_icmp_ne (tgt := 38) (tb_ok aX3_put_0 16 rfl) (by decide) (fun c30 => ?_) (fun c30 => ?_)
      · refine s_iload_n (tb_ok aX3_put_0 20 rfl) rfl ?_
        refine s_iast (tb_ok aX3_put_0 21 rfl) h3 (hasI (by decide) hb) ?_
        refine s_vret (tb_ok aX3_put_0 22 rfl) rfl ?_
        refine ⟨rfl, rfl, ?_, rfl, rfl⟩
        first | (rw [if_neg (bI_0.mp c5)]; done) | (rw [if_pos hb]; simp [cvt, *])
      · refine s_iload_n (tb_ok aX3_put_0 17 rfl) rfl ?_
        refine s_i2s (tb_ok aX3_put_0 18 rfl) ?_
        refine s_goto (tgt := 39) (tb_ok aX3_put_0 19 rfl) (by decide) ?_
        refine s_iast (tb_ok aX3_put_0 21 rfl) h3 (hasI (by decide) hb) ?_
        refine s_vret (tb_ok aX3_put_0 22 rfl) rfl ?_
        refine ⟨rfl, rfl, ?_, rfl, rfl⟩
        first | (rw [if_neg (bI_0.mp c5)]; done) | (rw [if_pos hb]; simp [cvt, *])
    · refine s_iload_n (tb_ok aX3_put_0 10 rfl) rfl ?_
      refine s_i2b (tb_ok aX3_put_0 11 rfl) ?_
      refine s_goto (tgt := 39) (tb_ok aX3_put_0 12 rfl) (by decide) ?_
      refine s_iast (tb_ok aX3_put_0 21 rfl) h3 (hasI (by decide) hb) ?_
      refine s_vret (tb_ok aX3_put_0 22 rfl) rfl ?_
      refine ⟨rfl, rfl, ?_, rfl, rfl⟩
      first | (rw [if_neg (bI_0.mp c5)]; done) | (rw [if_pos hb]; simp [cvt, *])

def held (v lo hi : Int32) : Int32 := (fun m => if lo < m then m else lo) (if v < hi then v else hi)
set_option maxRecDepth 100000 in
set_option maxHeartbeats 4000000 in
theorem E_held {X : En} {S : Sh} {I : FI} {L : FL} {R : FR} (v lo hi : Int32) : Ev X 1 mX7_held (0, 0) [.int v, .int lo, .int hi] S I L R (PureR (some (.int (held v lo hi))) S I L R) := by
  refine ev_of (by decide +kernel) rfl ?_
  show SW X _ _ _ 0 [some (.int v), some (.int lo), some (.int hi)] [] S I L R _
  refine s_iload_n (tb_ok aX7_held_0 0 rfl) rfl ?_
  refine s_iload_n (tb_ok aX7_held_0 1 rfl) rfl ?_
  refine s_iload_n (tb_ok aX7_held_0 2 rfl) rfl ?_
  refine s_mmin (tb_ok aX7_held_0 3 rfl) v_RX7_335 (by decide) (Nat.le_of_ble_eq_true rfl) ?_
  refine s_mmax (tb_ok aX7_held_0 4 rfl) v_RX7_340 (by decide) (Nat.le_of_ble_eq_true rfl) ?_
  refine s_iret (tb_ok aX7_held_0 5 rfl) rfl ?_
  exact pureR
