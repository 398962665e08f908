/-! the class itself: what numbers are such; in thought -/
theorem rules_R (q : Nat × Nat) {k : Nat} (h : k < 6) : R0 q 28 k = some (ruleN k) := by
  match k, h with
  | 0, _ => rfl
  | 1, _ => rfl
  | 2, _ => rfl
  | 3, _ => rfl
  | 4, _ => rfl
  | 5, _ => rfl
def rowN (k : Nat) : Nat := 54 + 2 * k
theorem rows_R (q : Nat × Nat) {k : Nat} (h : k < 4) : R0 q 29 k = some (rowN k) := by
  match k, h with
  | 0, _ => rfl
  | 1, _ => rfl
  | 2, _ => rfl
  | 3, _ => rfl
theorem row0 (q : Nat × Nat) {k : Nat} (h : k < 4) : isRow S0 (R0 q) (rowN k) := by
  match k, h with
  | 0, _ => exact ⟨rfl, rfl, rfl⟩
  | 1, _ => exact ⟨rfl, rfl, rfl⟩
  | 2, _ => exact ⟨rfl, rfl, rfl⟩
  | 3, _ => exact ⟨rfl, rfl, rfl⟩
/-- objects that a call writes before it reads them -/
def W1 (a : Nat) : Bool := W0 a || a == 26 || a == 27 || (decide (19 ≤ a) && decide (a ≤ 25))
def AgV (I I' : FI) : Prop := ∀ a, W1 a = false → I' a = I a
theorem W1_0 {a : Nat} (h : W1 a = false) : W0 a = false := by unfold W1 at h; cases e : W0 a <;> simp_all
theorem AgV.rf {I : FI} : AgV I I := fun _ _ => rfl
theorem AgV.tr {I J K : FI} (h : AgV I J) (h2 : AgV J K) : AgV I K := fun a ha => (h2 a ha).trans (h a ha)
theorem AgW.v {I J : FI} (h : AgW I J) : AgV I J := fun a ha => h a (W1_0 ha)
theorem AgV.set {I : FI} {o : Nat} {f : Nat → Int32} (h : W1 o = true) : AgV I (setO I o f) := fun a ha => setO_n (fun e => by rw [e, h] at ha; cases ha)
theorem AgV.rule {I I' : FI} {i : Nat} {sem : Nat → (Nat → Int32) → Int32} (hi : i < 6) (h : okRule I (ruleN i) sem) (hA : AgV I I') : okRule I' (ruleN i) sem := by
  have w : ∀ i, i < 6 → W1 (ruleN i + 1) = false ∧ W1 (ruleN i + 2) = false := by decide
  unfold okRule
  rw [hA _ (w i hi).1, hA _ (w i hi).2]
  exact h
/-- two trees with the same five numbers -/
def T5 (f g : Nat → Int32) : Prop := ∀ j, j < 5 → f j = g j
theorem T5.upd {f g : Nat → Int32} {k : Nat} {x y : Int32} (h : T5 f g) (e : x = y) : T5 (upd f k x) (upd g k y) := fun j hj => by
  show (if j = k then x else f j) = (if j = k then y else g j)
  rw [e, h j hj]
def itP (sem : Nat → (Nat → Int32) → Int32) (fr fa : Nat → Int32) (m : Nat) (day : Int32) (f : Nat → Int32) : Nat → (Nat → Int32)
  | 0 => f
  | k + 1 => pasP sem fr fa m (itP sem fr fa m day f k) (day + nI k)

theorem T5.nm {f g : Nat → Int32} (h : T5 f g) (fact day : Int32) : nmT f fact day = nmT g fact day := by
  unfold nmT
  rw [h 4 (by omega), h 1 (by omega), h 2 (by omega), h 3 (by omega)]
theorem T5.fall {f g : Nat → Int32} (h : T5 f g) (sem : Nat → (Nat → Int32) → Int32) (fact day : Int32) : fallP sem f fact day = fallP sem g fact day := by
  unfold fallP
  rw [h.nm, h 0 (by omega), h 1 (by omega), h 4 (by omega)]
theorem T5.und {f g : Nat → Int32} (h : T5 f g) (fr fa : Nat → Int32) (m : Nat) (day : Int32) : undP fr fa m f day = undP fr fa m g day := by
  unfold undP
  rw [h 0 (by omega), h 1 (by omega), h 2 (by omega)]
theorem T5.tak {f g : Nat → Int32} (h : T5 f g) (sem : Nat → (Nat → Int32) → Int32) (fr fa : Nat → Int32) (m : Nat) (fact day : Int32) : takI sem fr fa m f fact day = takI sem fr fa m g fact day := by
  unfold takI
  rw [h.nm, h 0 (by omega), h 1 (by omega), h 2 (by omega)]
theorem T5.wl {f g : Nat → Int32} (h : T5 f g) (sem : Nat → (Nat → Int32) → Int32) (fr fa : Nat → Int32) (m : Nat) (fact day : Int32) : wlI sem fr fa m f fact day = wlI sem fr fa m g fact day := by
  unfold wlI knI
  rw [h.tak, h 2 (by omega)]
theorem T5.fal {f g : Nat → Int32} (h : T5 f g) (sem : Nat → (Nat → Int32) → Int32) (set day : Int32) : ∀ k, falS sem f set day k = falS sem g set day k := by
  intro k
  induction k with
  | zero => rfl
  | succ k ih => unfold falS; rw [ih, h.fall]
theorem T5.pasA {f g : Nat → Int32} (h : T5 f g) (sem : Nat → (Nat → Int32) → Int32) (fr fa : Nat → Int32) (m : Nat) (day : Int32) : T5 (pasA sem fr fa m f day) (pasA sem fr fa m g day) := by
  have e := h.und fr fa m day
  refine T5.upd (T5.upd h ?_) ?_
  · rw [e, h 2 (by omega)]
  · rw [e, h 3 (by omega), h.fal]
theorem T5.pas {f g : Nat → Int32} (h : T5 f g) (sem : Nat → (Nat → Int32) → Int32) (fr fa : Nat → Int32) (m : Nat) (day : Int32) : T5 (pasP sem fr fa m f day) (pasP sem fr fa m g day) := by
  have h2 := h.pasA sem fr fa m day
  refine T5.upd h2 ?_
  rw [h2.nm, h 4 (by omega)]
theorem T5.hea {f g : Nat → Int32} (h : T5 f g) (sem : Nat → (Nat → Int32) → Int32) (fr fa : Nat → Int32) (m : Nat) (fact day : Int32) : T5 (heaP sem fr fa m f fact day) (heaP sem fr fa m g fact day) := by
  unfold heaP
  rw [h.wl]
  by_cases e : wlI sem fr fa m g fact day = 0
  · rw [if_pos e, if_pos e]; exact h
  · rw [if_neg e, if_neg e]; exact h.upd (by rw [h 2 (by omega)])
theorem T5.it {f g : Nat → Int32} (h : T5 f g) (sem : Nat → (Nat → Int32) → Int32) (fr fa : Nat → Int32) (m : Nat) (day : Int32) : ∀ n, T5 (itP sem fr fa m day f n) (itP sem fr fa m day g n) := by
  intro n
  induction n with
  | zero => exact h
  | succ n ih => exact ih.pas _ _ _ _ _
theorem T5.rf {f : Nat → Int32} : T5 f f := fun _ _ => rfl
theorem T5.cp {f g : Nat → Int32} : T5 (cp5 f g) f := fun j hj => if_pos hj
theorem T5.sym {f g : Nat → Int32} (h : T5 f g) : T5 g f := fun j hj => (h j hj).symm
theorem T5.tr {f g k : Nat → Int32} (h : T5 f g) (h2 : T5 g k) : T5 f k := fun j hj => (h j hj).trans (h2 j hj)

set_option maxRecDepth 100000 in
set_option maxHeartbeats 4000000 in
theorem E_isFact {X : En} {S : Sh} {I : FI} {L : FL} {R : FR} (x : Int32) : Ev X 0 mX7_isFact (0, 0) [.int x] S I L R (PureR (some (.int (bI (¬ x < 0 ∧ x < 12)))) S I L R) := by
  refine ev_of (by decide +kernel) rfl ?_
  show SW X _ _ _ 0 [some (.int x)] [] S I L R _
  refine s_iload_n (tb_ok aX7_isFact_0 0 rfl) rfl ?_
  refine s_if_lt (tgt := 14) (tb_ok aX7_isFact_0 1 rfl) (by decide) (fun c1 => ?_) (fun c1 => ?_)
  · refine s_iconst (v := 0) (tb_ok aX7_isFact_0 7 rfl) (by decide) ?_
    refine s_zret (tb_ok aX7_isFact_0 8 rfl) rfl ?_ ?_
    first | exact Or.inl rfl | exact Or.inr rfl
    exact pureE (congrArg (fun z => some (Value.int z)) (bI_f (by simp only [Int32.lt_iff_toInt_lt, Int32.le_iff_toInt_le] at *; omega)).symm)
  · refine s_iload_n (tb_ok aX7_isFact_0 2 rfl) rfl ?_
    refine s_bipush (v := 12) (tb_ok aX7_isFact_0 3 rfl) (by decide) ?_
    refine s_icmp_ge (tgt := 14) (tb_ok aX7_isFact_0 4 rfl) (by decide) (fun c7 => ?_) (fun c7 => ?_)
    · refine s_iconst (v := 0) (tb_ok aX7_isFact_0 7 rfl) (by decide) ?_
      refine s_zret (tb_ok aX7_isFact_0 8 rfl) rfl ?_ ?_
      first | exact Or.inl rfl | exact Or.inr rfl
      exact pureE (congrArg (fun z => some (Value.int z)) (bI_f (by simp only [Int32.lt_iff_toInt_lt, Int32.le_iff_toInt_le] at *; omega)).symm)
    · refine s_iconst (v := 1) (tb_ok aX7_isFact_0 5 rfl) (by decide) ?_
      refine s_goto (tgt := 15) (tb_ok aX7_isFact_0 6 rfl) (by decide) ?_
      refine s_zret (tb_ok aX7_isFact_0 8 rfl) rfl ?_ ?_
      first | exact Or.inl rfl | exact Or.inr rfl
      exact pureE (congrArg (fun z => some (Value.int z)) (bI_t (by simp only [Int32.lt_iff_toInt_lt, Int32.le_iff_toInt_le] at *; omega)).symm)

set_option maxRecDepth 100000 in
set_option maxHeartbeats 4000000 in
theorem E_isSet {X : En} {S : Sh} {I : FI} {L : FL} {R : FR} (x : Int32) : Ev X 0 mX7_isSet (0, 0) [.int x] S I L R (PureR (some (.int (bI (¬ x < 0 ∧ x ≤ 4095)))) S I L R) := by
  refine ev_of (by decide +kernel) rfl ?_
  show SW X _ _ _ 0 [some (.int x)] [] S I L R _
  refine s_iload_n (tb_ok aX7_isSet_0 0 rfl) rfl ?_
  refine s_if_lt (tgt := 15) (tb_ok aX7_isSet_0 1 rfl) (by decide) (fun c1 => ?_) (fun c1 => ?_)
  · refine s_iconst (v := 0) (tb_ok aX7_isSet_0 7 rfl) (by decide) ?_
    refine s_zret (tb_ok aX7_isSet_0 8 rfl) rfl ?_ ?_
    first | exact Or.inl rfl | exact Or.inr rfl
    exact pureE (congrArg (fun z => some (Value.int z)) (bI_f (by simp only [Int32.lt_iff_toInt_lt, Int32.le_iff_toInt_le] at *; omega)).symm)
  · refine s_iload_n (tb_ok aX7_isSet_0 2 rfl) rfl ?_
    refine s_sipush (v := 4095) (tb_ok aX7_isSet_0 3 rfl) (by decide) ?_
    refine s_icmp_gt (tgt := 15) (tb_ok aX7_isSet_0 4 rfl) (by decide) (fun c8 => ?_) (fun c8 => ?_)
    · refine s_iconst (v := 0) (tb_ok aX7_isSet_0 7 rfl) (by decide) ?_
      refine s_zret (tb_ok aX7_isSet_0 8 rfl) rfl ?_ ?_
      first | exact Or.inl rfl | exact Or.inr rfl
      exact pureE (congrArg (fun z => some (Value.int z)) (bI_f (by simp only [Int32.lt_iff_toInt_lt, Int32.le_iff_toInt_le] at *; omega)).symm)
    · refine s_iconst (v := 1) (tb_ok aX7_isSet_0 5 rfl) (by decide) ?_
      refine s_goto (tgt := 16) (tb_ok aX7_isSet_0 6 rfl) (by decide) ?_
      refine s_zret (tb_ok aX7_isSet_0 8 rfl) rfl ?_ ?_
      first | exact Or.inl rfl | exact Or.inr rfl
      exact pureE (congrArg (fun z => some (Value.int z)) (bI_t (by simp only [Int32.lt_iff_toInt_lt, Int32.le_iff_toInt_le] at *; omega)).symm)

set_option maxRecDepth 100000 in
set_option maxHeartbeats 4000000 in
theorem E_isDays {X : En} {S : Sh} {I : FI} {L : FL} {R : FR} (x : Int32) : Ev X 0 mX7_isDays (0, 0) [.int x] S I L R (PureR (some (.int (bI (¬ x < 0 ∧ x ≤ 40)))) S I L R) := by
  refine ev_of (by decide +kernel) rfl ?_
  show SW X _ _ _ 0 [some (.int x)] [] S I L R _
  refine s_iload_n (tb_ok aX7_isDays_0 0 rfl) rfl ?_
  refine s_if_lt (tgt := 14) (tb_ok aX7_isDays_0 1 rfl) (by decide) (fun c1 => ?_) (fun c1 => ?_)
  · refine s_iconst (v := 0) (tb_ok aX7_isDays_0 7 rfl) (by decide) ?_
    refine s_zret (tb_ok aX7_isDays_0 8 rfl) rfl ?_ ?_
    first | exact Or.inl rfl | exact Or.inr rfl
    exact pureE (congrArg (fun z => some (Value.int z)) (bI_f (by simp only [Int32.lt_iff_toInt_lt, Int32.le_iff_toInt_le] at *; omega)).symm)
  · refine s_iload_n (tb_ok aX7_isDays_0 2 rfl) rfl ?_
    refine s_bipush (v := 40) (tb_ok aX7_isDays_0 3 rfl) (by decide) ?_
    refine s_icmp_gt (tgt := 14) (tb_ok aX7_isDays_0 4 rfl) (by decide) (fun c7 => ?_) (fun c7 => ?_)
    · refine s_iconst (v := 0) (tb_ok aX7_isDays_0 7 rfl) (by decide) ?_
      refine s_zret (tb_ok aX7_isDays_0 8 rfl) rfl ?_ ?_
      first | exact Or.inl rfl | exact Or.inr rfl
      exact pureE (congrArg (fun z => some (Value.int z)) (bI_f (by simp only [Int32.lt_iff_toInt_lt, Int32.le_iff_toInt_le] at *; omega)).symm)
    · refine s_iconst (v := 1) (tb_ok aX7_isDays_0 5 rfl) (by decide) ?_
      refine s_goto (tgt := 15) (tb_ok aX7_isDays_0 6 rfl) (by decide) ?_
      refine s_zret (tb_ok aX7_isDays_0 8 rfl) rfl ?_ ?_
      first | exact Or.inl rfl | exact Or.inr rfl
      exact pureE (congrArg (fun z => some (Value.int z)) (bI_t (by simp only [Int32.lt_iff_toInt_lt, Int32.le_iff_toInt_le] at *; omega)).symm)

set_option maxRecDepth 100000 in
set_option maxHeartbeats 4000000 in
theorem E_isSort {X : En} {S : Sh} {I : FI} {L : FL} {R : FR} (x : Int32) : Ev X 0 mX7_isSort (0, 0) [.int x] S I L R (PureR (some (.int (bI (¬ x < 0 ∧ x < 3)))) S I L R) := by
  refine ev_of (by decide +kernel) rfl ?_
  show SW X _ _ _ 0 [some (.int x)] [] S I L R _
  refine s_iload_n (tb_ok aX7_isSort_0 0 rfl) rfl ?_
  refine s_if_lt (tgt := 13) (tb_ok aX7_isSort_0 1 rfl) (by decide) (fun c1 => ?_) (fun c1 => ?_)
  · refine s_iconst (v := 0) (tb_ok aX7_isSort_0 7 rfl) (by decide) ?_
    refine s_zret (tb_ok aX7_isSort_0 8 rfl) rfl ?_ ?_
    first | exact Or.inl rfl | exact Or.inr rfl
    exact pureE (congrArg (fun z => some (Value.int z)) (bI_f (by simp only [Int32.lt_iff_toInt_lt, Int32.le_iff_toInt_le] at *; omega)).symm)
  · refine s_iload_n (tb_ok aX7_isSort_0 2 rfl) rfl ?_
    refine s_iconst (v := 3) (tb_ok aX7_isSort_0 3 rfl) (by decide) ?_
    refine s_icmp_ge (tgt := 13) (tb_ok aX7_isSort_0 4 rfl) (by decide) (fun c6 => ?_) (fun c6 => ?_)
    · refine s_iconst (v := 0) (tb_ok aX7_isSort_0 7 rfl) (by decide) ?_
      refine s_zret (tb_ok aX7_isSort_0 8 rfl) rfl ?_ ?_
      first | exact Or.inl rfl | exact Or.inr rfl
      exact pureE (congrArg (fun z => some (Value.int z)) (bI_f (by simp only [Int32.lt_iff_toInt_lt, Int32.le_iff_toInt_le] at *; omega)).symm)
    · refine s_iconst (v := 1) (tb_ok aX7_isSort_0 5 rfl) (by decide) ?_
      refine s_goto (tgt := 14) (tb_ok aX7_isSort_0 6 rfl) (by decide) ?_
      refine s_zret (tb_ok aX7_isSort_0 8 rfl) rfl ?_ ?_
      first | exact Or.inl rfl | exact Or.inr rfl
      exact pureE (congrArg (fun z => some (Value.int z)) (bI_t (by simp only [Int32.lt_iff_toInt_lt, Int32.le_iff_toInt_le] at *; omega)).symm)

set_option maxRecDepth 100000 in
set_option maxHeartbeats 4000000 in
theorem E_isHouse {X : En} {S : Sh} {I : FI} {L : FL} {R : FR} (x z : Int32) : Ev X 0 mX7_isHouse (0, 0) [.int x, .int z] S I L R (PureR (some (.int (bI (¬ x < 0 ∧ x < 6 ∧ ¬ z < 0 ∧ z < 10)))) S I L R) := by
  refine ev_of (by decide +kernel) rfl ?_
  show SW X _ _ _ 0 [some (.int x), some (.int z)] [] S I L R _
  refine s_iload_n (tb_ok aX7_isHouse_0 0 rfl) rfl ?_
  refine s_if_lt (tgt := 24) (tb_ok aX7_isHouse_0 1 rfl) (by decide) (fun c1 => ?_) (fun c1 => ?_)
  · refine s_iconst (v := 0) (tb_ok aX7_isHouse_0 12 rfl) (by decide) ?_
    refine s_zret (tb_ok aX7_isHouse_0 13 rfl) rfl ?_ ?_
    first | exact Or.inl rfl | exact Or.inr rfl
    exact pureE (congrArg (fun z => some (Value.int z)) (bI_f (by simp only [Int32.lt_iff_toInt_lt, Int32.le_iff_toInt_le] at *; omega)).symm)
  · refine s_iload_n (tb_ok aX7_isHouse_0 2 rfl) rfl ?_
    refine s_bipush (v := 6) (tb_ok aX7_isHouse_0 3 rfl) (by decide) ?_
    refine s_icmp_ge (tgt := 24) (tb_ok aX7_isHouse_0 4 rfl) (by decide) (fun c7 => ?_) (fun c7 => ?_)
    · refine s_iconst (v := 0) (tb_ok aX7_isHouse_0 12 rfl) (by decide) ?_
      refine s_zret (tb_ok aX7_isHouse_0 13 rfl) rfl ?_ ?_
      first | exact Or.inl rfl | exact Or.inr rfl
      exact pureE (congrArg (fun z => some (Value.int z)) (bI_f (by simp only [Int32.lt_iff_toInt_lt, Int32.le_iff_toInt_le] at *; omega)).symm)
    · refine s_iload_n (tb_ok aX7_isHouse_0 5 rfl) rfl ?_
      refine s_if_lt (tgt := 24) (tb_ok aX7_isHouse_0 6 rfl) (by decide) (fun c11 => ?_) (fun c11 => ?_)
      · refine s_iconst (v := 0) (tb_ok aX7_isHouse_0 12 rfl) (by decide) ?_
        refine s_zret (tb_ok aX7_isHouse_0 13 rfl) rfl ?_ ?_
        first | exact Or.inl rfl | exact Or.inr rfl
        exact pureE (congrArg (fun z => some (Value.int z)) (bI_f (by simp only [Int32.lt_iff_toInt_lt, Int32.le_iff_toInt_le] at *; omega)).symm)
      · refine s_iload_n (tb_ok aX7_isHouse_0 7 rfl) rfl ?_
        refine s_bipush (v := 10) (tb_ok aX7_isHouse_0 8 rfl) (by decide) ?_
        refine s_icmp_ge (tgt := 24) (tb_ok aX7_isHouse_0 9 rfl) (by decide) (fun c17 => ?_) (fun c17 => ?_)
        · refine s_iconst (v := 0) (tb_ok aX7_isHouse_0 12 rfl) (by decide) ?_
          refine s_zret (tb_ok aX7_isHouse_0 13 rfl) rfl ?_ ?_
          first | exact Or.inl rfl | exact Or.inr rfl
          exact pureE (congrArg (fun z => some (Value.int z)) (bI_f (by simp only [Int32.lt_iff_toInt_lt, Int32.le_iff_toInt_le] at *; omega)).symm)
        · refine s_iconst (v := 1) (tb_ok aX7_isHouse_0 10 rfl) (by decide) ?_
          refine s_goto (tgt := 25) (tb_ok aX7_isHouse_0 11 rfl) (by decide) ?_
          refine s_zret (tb_ok aX7_isHouse_0 13 rfl) rfl ?_ ?_
          first | exact Or.inl rfl | exact Or.inr rfl
          exact pureE (congrArg (fun z => some (Value.int z)) (bI_t (by simp only [Int32.lt_iff_toInt_lt, Int32.le_iff_toInt_le] at *; omega)).symm)

def grt (x : Int32) : Int32 := if x = 0 then 999 else if x = 1 then 9 else if x = 2 then 4095 else if x = 3 then 99 else if x = 4 then 99 else -1
set_option maxRecDepth 100000 in
set_option maxHeartbeats 4000000 in
theorem E_greatest {X : En} {S : Sh} {I : FI} {L : FL} {R : FR} (x : Int32) : Ev X 0 mX7_greatest (0, 0) [.int x] S I L R (PureR (some (.int (grt x))) S I L R) := by
  refine ev_of (by decide +kernel) rfl ?_
  show SW X _ _ _ 0 [some (.int x)] [] S I L R _
  refine s_iload_n (tb_ok aX7_greatest_0 0 rfl) rfl ?_
  by_cases e0 : x = 0
  · subst e0
    refine s_tableIn (off := 35) (tgt := 36) (tb_ok aX7_greatest_0 1 rfl) (by decide) (by decide) rfl (by decide) ?_
    refine s_sipush (v := 999) (tb_ok aX7_greatest_0 2 rfl) (by decide) ?_
    refine s_iret (tb_ok aX7_greatest_0 3 rfl) rfl ?_
    exact pureE (by simp [grt, *])
  by_cases e1 : x = 1
  · subst e1
    refine s_tableIn (off := 39) (tgt := 40) (tb_ok aX7_greatest_0 1 rfl) (by decide) (by decide) rfl (by decide) ?_
    refine s_bipush (v := 9) (tb_ok aX7_greatest_0 4 rfl) (by decide) ?_
    refine s_iret (tb_ok aX7_greatest_0 5 rfl) rfl ?_
    exact pureE (by simp [grt, *])
  by_cases e2 : x = 2
  · subst e2
    refine s_tableIn (off := 42) (tgt := 43) (tb_ok aX7_greatest_0 1 rfl) (by decide) (by decide) rfl (by decide) ?_
    refine s_sipush (v := 4095) (tb_ok aX7_greatest_0 6 rfl) (by decide) ?_
    refine s_iret (tb_ok aX7_greatest_0 7 rfl) rfl ?_
    exact pureE (by simp [grt, *])
  by_cases e3 : x = 3
  · subst e3
    refine s_tableIn (off := 46) (tgt := 47) (tb_ok aX7_greatest_0 1 rfl) (by decide) (by decide) rfl (by decide) ?_
    refine s_bipush (v := 99) (tb_ok aX7_greatest_0 8 rfl) (by decide) ?_
    refine s_iret (tb_ok aX7_greatest_0 9 rfl) rfl ?_
    exact pureE (by simp [grt, *])
  by_cases e4 : x = 4
  · subst e4
    refine s_tableIn (off := 46) (tgt := 47) (tb_ok aX7_greatest_0 1 rfl) (by decide) (by decide) rfl (by decide) ?_
    refine s_bipush (v := 99) (tb_ok aX7_greatest_0 8 rfl) (by decide) ?_
    refine s_iret (tb_ok aX7_greatest_0 9 rfl) rfl ?_
    exact pureE (by simp [grt, *])
  · refine s_tableOut (tgt := 50) (tb_ok aX7_greatest_0 1 rfl) ?_ (by decide) ?_
    · by_cases h : x.toInt < 0
      · exact Or.inl h
      · by_cases h2 : 4 < x.toInt
        · exact Or.inr h2
        · exfalso
          have q0 : ¬ x.toInt = 0 := fun h => e0 (Int32.toInt_inj.mp h)
          have q1 : ¬ x.toInt = 1 := fun h => e1 (Int32.toInt_inj.mp h)
          have q2 : ¬ x.toInt = 2 := fun h => e2 (Int32.toInt_inj.mp h)
          have q3 : ¬ x.toInt = 3 := fun h => e3 (Int32.toInt_inj.mp h)
          have q4 : ¬ x.toInt = 4 := fun h => e4 (Int32.toInt_inj.mp h)
          omega
    · refine s_iconst (v := -1) (tb_ok aX7_greatest_0 10 rfl) (by decide) ?_
      refine s_iret (tb_ok aX7_greatest_0 11 rfl) rfl ?_
      exact pureE (by simp [grt, *])

set_option maxRecDepth 100000 in
set_option maxHeartbeats 4000000 in
theorem E_ruleAt {X : En} {I : FI} {L : FL} {q : Nat × Nat} {k : Nat} (hk : k < 6) : Ev X 0 mX7_ruleAt (0, 0) [.ref 0, .int (nI k)] S0 I L (R0 q) (PureR (some (.ref (ruleN k))) S0 I L (R0 q)) := by
  refine ev_of (by decide +kernel) rfl ?_
  show SW X _ _ _ 0 [some (.ref 0), some (.int (nI k))] [] S0 I L (R0 q) _
  refine s_iload_n (tb_ok aX7_ruleAt_0 0 rfl) rfl ?_
  refine s_if_lt (tgt := 22) (tb_ok aX7_ruleAt_0 1 rfl) (by decide) (fun c1 => ?_) (fun c1 => ?_)
  · exact absurd c1 (nI_pos (by omega))
  · refine s_iload_n (tb_ok aX7_ruleAt_0 2 rfl) rfl ?_
    refine s_aload_n (tb_ok aX7_ruleAt_0 3 rfl) rfl ?_
    refine s_getR (r := 28) (tb_ok aX7_ruleAt_0 4 rfl) f_RX7_41 rfl rfl rfl ?_
    refine s_alen (v := nI 6) (a := 3) (n := 6) (tb_ok aX7_ruleAt_0 5 rfl) (by decide) rfl (by decide) ?_
    refine s_icmp_ge (tgt := 22) (tb_ok aX7_ruleAt_0 6 rfl) (by decide) (fun c10 => ?_) (fun c10 => ?_)
    · simp (disch := omega) only [nI_ltI, nI_leI, nI_eq] at c10
      omega
    · refine s_aload_n (tb_ok aX7_ruleAt_0 7 rfl) rfl ?_
      refine s_getR (r := 28) (tb_ok aX7_ruleAt_0 8 rfl) f_RX7_41 rfl rfl rfl ?_
      refine s_iload_n (tb_ok aX7_ruleAt_0 9 rfl) rfl ?_
      refine s_aaldN (r := (ruleN k)) (a := 1) (n := 6) (tb_ok aX7_ruleAt_0 10 rfl) (by decide) rfl hk (by decide) (rules_R q hk) ?_
      refine s_goto (tgt := 23) (tb_ok aX7_ruleAt_0 11 rfl) (by decide) ?_
      refine s_aret (r := some (ruleN k)) (tb_ok aX7_ruleAt_0 13 rfl) rfl ?_
      exact pureR

set_option maxRecDepth 100000 in
set_option maxHeartbeats 4000000 in
theorem E_ruleAtN {X : En} {I : FI} {L : FL} {q : Nat × Nat} {x : Int32} (hx : x < 0 ∨ nI 6 ≤ x) : Ev X 0 mX7_ruleAt (0, 0) [.ref 0, .int x] S0 I L (R0 q) (PureR (some .null) S0 I L (R0 q)) := by
  refine ev_of (by decide +kernel) rfl ?_
  show SW X _ _ _ 0 [some (.ref 0), some (.int x)] [] S0 I L (R0 q) _
  refine s_iload_n (tb_ok aX7_ruleAt_0 0 rfl) rfl ?_
  refine s_if_lt (tgt := 22) (tb_ok aX7_ruleAt_0 1 rfl) (by decide) (fun c1 => ?_) (fun c1 => ?_)
  · refine s_null (tb_ok aX7_ruleAt_0 12 rfl) ?_
    refine s_aret (r := none) (tb_ok aX7_ruleAt_0 13 rfl) rfl ?_
    exact pureR
  · refine s_iload_n (tb_ok aX7_ruleAt_0 2 rfl) rfl ?_
    refine s_aload_n (tb_ok aX7_ruleAt_0 3 rfl) rfl ?_
    refine s_getR (r := 28) (tb_ok aX7_ruleAt_0 4 rfl) f_RX7_41 rfl rfl rfl ?_
    refine s_alen (v := nI 6) (a := 3) (n := 6) (tb_ok aX7_ruleAt_0 5 rfl) (by decide) rfl (by decide) ?_
    refine s_icmp_ge (tgt := 22) (tb_ok aX7_ruleAt_0 6 rfl) (by decide) (fun c10 => ?_) (fun c10 => ?_)
    · refine s_null (tb_ok aX7_ruleAt_0 12 rfl) ?_
      refine s_aret (r := none) (tb_ok aX7_ruleAt_0 13 rfl) rfl ?_
      exact pureR
    · exact absurd hx (by simp only [Int32.lt_iff_toInt_lt, Int32.le_iff_toInt_le] at *; omega)

set_option maxRecDepth 100000 in
set_option maxHeartbeats 4000000 in
theorem E_rowAt {X : En} {I : FI} {L : FL} {q : Nat × Nat} {k : Nat} (hk : k < 4) : Ev X 0 mX7_rowAt (0, 0) [.ref 0, .int (nI k)] S0 I L (R0 q) (PureR (some (.ref (rowN k))) S0 I L (R0 q)) := by
  refine ev_of (by decide +kernel) rfl ?_
  show SW X _ _ _ 0 [some (.ref 0), some (.int (nI k))] [] S0 I L (R0 q) _
  refine s_iload_n (tb_ok aX7_rowAt_0 0 rfl) rfl ?_
  refine s_if_lt (tgt := 22) (tb_ok aX7_rowAt_0 1 rfl) (by decide) (fun c1 => ?_) (fun c1 => ?_)
  · exact absurd c1 (nI_pos (by omega))
  · refine s_iload_n (tb_ok aX7_rowAt_0 2 rfl) rfl ?_
    refine s_aload_n (tb_ok aX7_rowAt_0 3 rfl) rfl ?_
    refine s_getR (r := 29) (tb_ok aX7_rowAt_0 4 rfl) f_RX7_47 rfl rfl rfl ?_
    refine s_alen (v := nI 4) (a := 4) (n := 4) (tb_ok aX7_rowAt_0 5 rfl) (by decide) rfl (by decide) ?_
    refine s_icmp_ge (tgt := 22) (tb_ok aX7_rowAt_0 6 rfl) (by decide) (fun c10 => ?_) (fun c10 => ?_)
    · simp (disch := omega) only [nI_ltI, nI_leI, nI_eq] at c10
      omega
    · refine s_aload_n (tb_ok aX7_rowAt_0 7 rfl) rfl ?_
      refine s_getR (r := 29) (tb_ok aX7_rowAt_0 8 rfl) f_RX7_47 rfl rfl rfl ?_
      refine s_iload_n (tb_ok aX7_rowAt_0 9 rfl) rfl ?_
      refine s_aaldN (r := (rowN k)) (a := 2) (n := 4) (tb_ok aX7_rowAt_0 10 rfl) (by decide) rfl hk (by decide) (rows_R q hk) ?_
      refine s_goto (tgt := 23) (tb_ok aX7_rowAt_0 11 rfl) (by decide) ?_
      refine s_aret (r := some (rowN k)) (tb_ok aX7_rowAt_0 13 rfl) rfl ?_
      exact pureR

set_option maxRecDepth 100000 in
set_option maxHeartbeats 4000000 in
theorem E_rowAtN {X : En} {I : FI} {L : FL} {q : Nat × Nat} {x : Int32} (hx : x < 0 ∨ nI 4 ≤ x) : Ev X 0 mX7_rowAt (0, 0) [.ref 0, .int x] S0 I L (R0 q) (PureR (some .null) S0 I L (R0 q)) := by
  refine ev_of (by decide +kernel) rfl ?_
  show SW X _ _ _ 0 [some (.ref 0), some (.int x)] [] S0 I L (R0 q) _
  refine s_iload_n (tb_ok aX7_rowAt_0 0 rfl) rfl ?_
  refine s_if_lt (tgt := 22) (tb_ok aX7_rowAt_0 1 rfl) (by decide) (fun c1 => ?_) (fun c1 => ?_)
  · refine s_null (tb_ok aX7_rowAt_0 12 rfl) ?_
    refine s_aret (r := none) (tb_ok aX7_rowAt_0 13 rfl) rfl ?_
    exact pureR
  · refine s_iload_n (tb_ok aX7_rowAt_0 2 rfl) rfl ?_
    refine s_aload_n (tb_ok aX7_rowAt_0 3 rfl) rfl ?_
    refine s_getR (r := 29) (tb_ok aX7_rowAt_0 4 rfl) f_RX7_47 rfl rfl rfl ?_
    refine s_alen (v := nI 4) (a := 4) (n := 4) (tb_ok aX7_rowAt_0 5 rfl) (by decide) rfl (by decide) ?_
    refine s_icmp_ge (tgt := 22) (tb_ok aX7_rowAt_0 6 rfl) (by decide) (fun c10 => ?_) (fun c10 => ?_)
    · refine s_null (tb_ok aX7_rowAt_0 12 rfl) ?_
      refine s_aret (r := none) (tb_ok aX7_rowAt_0 13 rfl) rfl ?_
      exact pureR
    · exact absurd hx (by simp only [Int32.lt_iff_toInt_lt, Int32.le_iff_toInt_le] at *; omega)

set_option maxRecDepth 100000 in
set_option maxHeartbeats 4000000 in
theorem E_tellOf {X : En} {I : FI} {L : FL} {q : Nat × Nat} {o : Nat} (ho : S0[o]? = some (5, 5)) (x : Int32) : Ev X 1 mX7_tellOf (0, 0) [.ref 0, .ref o, .int x] S0 I L (R0 q) (PureR (some (.int (if x = 0 then I 5 2 else tNum (I o) x))) S0 I L (R0 q)) := by
  refine ev_of (by decide +kernel) rfl ?_
  show SW X _ _ _ 0 [some (.ref 0), some (.ref o), some (.int x)] [] S0 I L (R0 q) _
  refine s_iload_n (tb_ok aX7_tellOf_0 0 rfl) rfl ?_
  refine s_if_eq (tgt := 8) (tb_ok aX7_tellOf_0 1 rfl) (by decide) (fun c1 => ?_) (fun c1 => ?_)
  · refine s_aload_n (tb_ok aX7_tellOf_0 4 rfl) rfl ?_
    refine s_getR (r := 5) (tb_ok aX7_tellOf_0 5 rfl) f_RX7_19 rfl rfl rfl ?_
    refine s_getI (tb_ok aX7_tellOf_0 6 rfl) f_RX7_127 rfl rfl rfl ?_
    refine s_goto (tgt := 23) (tb_ok aX7_tellOf_0 7 rfl) (by decide) ?_
    refine s_iret (tb_ok aX7_tellOf_0 11 rfl) rfl ?_
    refine pureE ?_
    first | (rw [if_pos c1]; done) | (rw [if_neg c1]; done)
  · refine s_aload_n (tb_ok aX7_tellOf_0 2 rfl) rfl ?_
    refine s_ifnonnull (tgt := 18) (tb_ok aX7_tellOf_0 3 rfl) (by decide) ?_
    refine s_aload_n (tb_ok aX7_tellOf_0 8 rfl) rfl ?_
    refine s_iload_n (tb_ok aX7_tellOf_0 9 rfl) rfl ?_
    refine s_cVp (as := [.int x]) (tb_ok aX7_tellOf_0 10 rfl) v_RX7_343 (E_Tnumber ho _) (by decide) ho rfl rfl rfl rfl (Nat.le_of_ble_eq_true rfl) (by decide) ?_
    refine s_iret (tb_ok aX7_tellOf_0 11 rfl) rfl ?_
    refine pureE ?_
    first | (rw [if_pos c1]; done) | (rw [if_neg c1]; done)

set_option maxRecDepth 100000 in
set_option maxHeartbeats 4000000 in
theorem E_tellOfN {X : En} {I : FI} {L : FL} {q : Nat × Nat} (x : Int32) : Ev X 1 mX7_tellOf (0, 0) [.ref 0, .null, .int x] S0 I L (R0 q) (PureR (some (.int (I 5 2))) S0 I L (R0 q)) := by
  refine ev_of (by decide +kernel) rfl ?_
  show SW X _ _ _ 0 [some (.ref 0), some (.null), some (.int x)] [] S0 I L (R0 q) _
  refine s_iload_n (tb_ok aX7_tellOf_0 0 rfl) rfl ?_
  refine s_if_eq (tgt := 8) (tb_ok aX7_tellOf_0 1 rfl) (by decide) (fun c1 => ?_) (fun c1 => ?_)
  · refine s_aload_n (tb_ok aX7_tellOf_0 4 rfl) rfl ?_
    refine s_getR (r := 5) (tb_ok aX7_tellOf_0 5 rfl) f_RX7_19 rfl rfl rfl ?_
    refine s_getI (tb_ok aX7_tellOf_0 6 rfl) f_RX7_127 rfl rfl rfl ?_
    refine s_goto (tgt := 23) (tb_ok aX7_tellOf_0 7 rfl) (by decide) ?_
    refine s_iret (tb_ok aX7_tellOf_0 11 rfl) rfl ?_
    exact pureR
  · refine s_aloadq_n (r := none) (tb_ok aX7_tellOf_0 2 rfl) rfl ?_
    refine s_ifnonnullN (tb_ok aX7_tellOf_0 3 rfl) ?_
    refine s_aload_n (tb_ok aX7_tellOf_0 4 rfl) rfl ?_
    refine s_getR (r := 5) (tb_ok aX7_tellOf_0 5 rfl) f_RX7_19 rfl rfl rfl ?_
    refine s_getI (tb_ok aX7_tellOf_0 6 rfl) f_RX7_127 rfl rfl rfl ?_
    refine s_goto (tgt := 23) (tb_ok aX7_tellOf_0 7 rfl) (by decide) ?_
    refine s_iret (tb_ok aX7_tellOf_0 11 rfl) rfl ?_
    exact pureR
