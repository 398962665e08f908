/-! what each kind makes of the laws and of the text that rules; the world is S0, R0 q -/
/-- objects whose contents nobody reads before they are written: the names, the values that wait -/
def W0 (a : Nat) : Bool := a == 65 || (decide (33 ≤ a) && decide (a ≤ 53) && (a - 33) % 4 == 0)
def AgW (I I' : FI) : Prop := ∀ a, W0 a = false → I' a = I a
theorem AgW.rf {I : FI} : AgW I I := fun _ _ => rfl
theorem AgW.tr {I J K : FI} (h : AgW I J) (h2 : AgW J K) : AgW I K := fun a ha => (h2 a ha).trans (h a ha)
theorem AgW.sym {I J : FI} (h : AgW I J) : AgW J I := fun a ha => (h a ha).symm
theorem AgW.set {I : FI} {o : Nat} {f : Nat → Int32} (h : W0 o = true) : AgW I (setO I o f) := fun a ha => setO_n (fun e => by rw [e, h] at ha; cases ha)
theorem AgW.setB {I J : FI} {o : Nat} {f : Nat → Int32} (h : AgW I J) : AgW (setO I o f) (setO J o f) := fun a ha => by
  unfold setO
  by_cases e : a = o
  · rw [if_pos e, if_pos e]
  · rw [if_neg e, if_neg e]; exact h a ha
theorem tree_lt {o : Nat} (h : S0[o]? = some (5, 5)) : o < 82 := (List.getElem?_eq_some_iff.mp h).1
theorem tree_W : ∀ o, o < 82 → S0[o]? = some (5, 5) → W0 o = false := by decide
theorem tree_W0 {o : Nat} (h : S0[o]? = some (5, 5)) : W0 o = false := tree_W o (tree_lt h) h
def AgR (r : Option Value) (I : FI) (L : FL) (q : Nat × Nat) : Pst := fun r' S' I' L' R' => r' = r ∧ S' = S0 ∧ AgW I I' ∧ L' = L ∧ R' = R0 q
theorem pureAg {r : Option Value} {I : FI} {L : FL} {q : Nat × Nat} {d : Nat} {X : En} {y : MD} {as : List Value} (h : Ev X d y (0, 0) as S0 I L (R0 q) (PureR r S0 I L (R0 q))) : Ev X d y (0, 0) as S0 I L (R0 q) (AgR r I L q) :=
  ev_mono h (fun r' S' I' L' R' hq => by obtain ⟨rfl, rfl, rfl, rfl, rfl⟩ := hq; exact ⟨rfl, rfl, AgW.rf, rfl, rfl⟩)
/-- a rule whose three parts say what sem tells, whatever waits -/
def okRule (I : FI) (o : Nat) (sem : Nat → (Nat → Int32) → Int32) : Prop := ∃ e : Nat → Nat, (∀ j, j < 3 → I (o + 2) j = nI (e j)) ∧ e 0 ≤ e 1 ∧ e 1 ≤ e 2 ∧ e 2 ≤ 160 ∧ ∀ pt, pt < 3 → ∀ nm w : Nat → Int32, valV (runV nm (I (o + 1)) w (if pt = 0 then 0 else e (pt - 1)) (e pt)) = sem pt nm
theorem rule_W {i : Nat} (h : i < 6) : W0 (ruleN i) = false ∧ W0 (ruleN i + 1) = false ∧ W0 (ruleN i + 2) = false ∧ W0 (ruleN i + 3) = true := by
  match i, h with
  | 0, _ => decide
  | 1, _ => decide
  | 2, _ => decide
  | 3, _ => decide
  | 4, _ => decide
  | 5, _ => decide
theorem okRule.ag {I I' : FI} {i : Nat} {sem : Nat → (Nat → Int32) → Int32} (hi : i < 6) (h : okRule I (ruleN i) sem) (hA : AgW I I') : okRule I' (ruleN i) sem := by
  obtain ⟨w1, w2, w3, -⟩ := rule_W hi
  unfold okRule
  rw [hA _ w2, hA _ w3]
  exact h
theorem stpN_congr {nm nm' co : Nat → Int32} (h : ∀ j, j < 6 → nm j = nm' j) : ∀ (n i : Nat) (s : Nat × (Nat → Int32)), stpN nm co n i s = stpN nm' co n i s := by
  intro n
  induction n with
  | zero => intro i s; rfl
  | succ n ih =>
    intro i s
    show stpN nm co n (i + 1) (stp nm (co i) s.1 s.2) = stpN nm' co n (i + 1) (stp nm' (co i) s.1 s.2)
    have e : stp nm (co i) s.1 s.2 = stp nm' (co i) s.1 s.2 := by
      unfold stp
      have e2 : atm nm (co i) = atm nm' (co i) := by
        unfold atm
        by_cases h1 : co i - 10000 < 0
        · rw [if_pos h1, if_pos h1]
        · rw [if_neg h1, if_neg h1]
          by_cases h2 : nI 6 ≤ co i - 10000
          · rw [if_pos h2, if_pos h2]
          · rw [if_neg h2, if_neg h2]
            have h3 := atm_in h1 h2
            exact h _ (Nat.not_le.mp fun z => h3 (Or.inr z))
      rw [e2]
    rw [e]
    exact ih _ _
theorem okRule.nm {I : FI} {o : Nat} {sem : Nat → (Nat → Int32) → Int32} (h : okRule I o sem) {pt : Nat} (hp : pt < 3) {nm nm' : Nat → Int32} (hn : ∀ j, j < 6 → nm j = nm' j) : sem pt nm = sem pt nm' := by
  obtain ⟨e, -, -, -, -, h5⟩ := h
  rw [← h5 pt hp nm (fun _ => 0), ← h5 pt hp nm' (fun _ => 0)]
  unfold runV
  rw [stpN_congr hn]
def nmF (a b c d e f : Int32) : Nat → Int32 := fun j => match j with
  | 0 => a
  | 1 => b
  | 2 => c
  | 3 => d
  | 4 => e
  | 5 => f
  | _ => 0
/-- the names' values, of a tree, a fact, a day -/
def nmT (f : Nat → Int32) (fact day : Int32) : Nat → Int32 := nmF fact (f 4) (f 1) day (bcF (f 2)) (f 3)
def fallP (sem : Nat → (Nat → Int32) → Int32) (f : Nat → Int32) (fact day : Int32) : Int32 :=
  (fun v => if f 0 = 1 then v / 2 else if f 0 = 2 then held (v + 1) 0 99 else if f 0 = 3 then held (v / 2 + f 1) 0 99 else if f 0 = 4 then held (v + 1) 0 99 else if f 0 = 5 then (if 50 < f 4 then held (2 * v) 0 99 else 0) else v) (held (sem 0 (nmT f fact day)) 0 99)
def undP (fr fa : Nat → Int32) (m : Nat) (f : Nat → Int32) (day : Int32) : Int32 :=
  (fun x => if f 0 = 1 then x &&& -x else if f 0 = 2 then clo fr fa m (-1) 12 (f 2) &&& ~~~(f 2) else if f 0 = 3 then (if day - day / 2 * 2 = 0 then x &&& -x else 0) else if f 0 = 4 then (clo fr fa m (-1) 12 (f 2) &&& ~~~(f 2)) &&& ~~~((1 : Int32) <<< (f 1 &&& 31)) else if f 0 = 5 then (if x = x &&& -x then 0 else x) else x) (nx fr fa m (f 2) (-1))
def takI (sem : Nat → (Nat → Int32) → Int32) (fr fa : Nat → Int32) (m : Nat) (f : Nat → Int32) (fact day : Int32) : Int32 :=
  if f 0 = 2 then 1 else if f 0 = 4 then bI (¬ fact = f 1) else bI (¬ sem 2 (nmT f fact day) = 0 ∧ (¬ f 0 = 1 ∨ ¬ nx fr fa m (f 2) (-1) = 0))
def knI (f : Nat → Int32) (fact : Int32) : Int32 := bI (¬ ((f 2) >>> (fact &&& 31)) &&& 1 = 0)
def wlI (sem : Nat → (Nat → Int32) → Int32) (fr fa : Nat → Int32) (m : Nat) (f : Nat → Int32) (fact day : Int32) : Int32 := bI (knI f fact = 0 ∧ ¬ takI sem fr fa m f fact day = 0)
/-- what falls for a set of facts, up to fact k -/
def falS (sem : Nat → (Nat → Int32) → Int32) (f : Nat → Int32) (set day : Int32) : Nat → Int32
  | 0 => 0
  | k + 1 => if (set >>> (nI k &&& 31)) &&& 1 = 0 then falS sem f set day k else falS sem f set day k + fallP sem f (nI k) day
/-- a tree behind a day -/
def pasA (sem : Nat → (Nat → Int32) → Int32) (fr fa : Nat → Int32) (m : Nat) (f : Nat → Int32) (day : Int32) : Nat → Int32 :=
  upd (upd f 2 (f 2 ||| undP fr fa m f day)) 3 (if 0 < f 3 - falS sem f (undP fr fa m f day) day 12 then f 3 - falS sem f (undP fr fa m f day) day 12 else 0)
def pasP (sem : Nat → (Nat → Int32) → Int32) (fr fa : Nat → Int32) (m : Nat) (f : Nat → Int32) (day : Int32) : Nat → Int32 :=
  upd (pasA sem fr fa m f day) 4 (held (f 4 + held (sem 1 (nmT (pasA sem fr fa m f day) 0 day)) (-9) 9) 0 99)
theorem tree_R : ∀ o, o < 82 → S0[o]? = some (5, 5) → ∀ i, i < 6 → ruleN i + 1 ≠ o ∧ ruleN i + 2 ≠ o := by decide
theorem okRule.set {I : FI} {o i : Nat} {f : Nat → Int32} {sem : Nat → (Nat → Int32) → Int32} (hi : i < 6) (ho : S0[o]? = some (5, 5)) (h : okRule I (ruleN i) sem) : okRule (setO I o f) (ruleN i) sem := by
  obtain ⟨h1, h2⟩ := tree_R o (tree_lt ho) ho i hi
  unfold okRule
  rw [setO_n h1, setO_n h2]
  exact h
theorem tree_L : ∀ o, o < 82 → S0[o]? = some (5, 5) → o ≠ 1 ∧ o ≠ 2 ∧ o ≠ 3 := by decide

def Ag6 (f : Nat → Int32) (I : FI) (L : FL) (q : Nat × Nat) : Pst := fun r' S' I' L' R' => r' = none ∧ S' = S0 ∧ (∃ g : Nat → Int32, (∀ j, j < 6 → g j = f j) ∧ I' = setO I 65 g) ∧ L' = L ∧ R' = R0 q
set_option maxRecDepth 100000 in
set_option maxHeartbeats 4000000 in
theorem E_describe {X : En} {I : FI} {L : FL} {q : Nat × Nat} {o : Nat} (ho : S0[o]? = some (5, 5)) (fact day : Int32) : Ev X 1 mX6_describe (0, 0) [.ref 64, .ref o, .int fact, .int day] S0 I L (R0 q) (Ag6 (nmT (I o) fact day) I L q) := by
  have hw : o ≠ 65 := fun e => by rw [e] at ho; cases ho
  refine ev_of (by decide +kernel) rfl ?_
  show SW X _ _ _ 0 [some (.ref 64), some (.ref o), some (.int fact), some (.int day)] [] S0 I L (R0 q) _
  refine s_aload_n (tb_ok aX6_describe_0 0 rfl) rfl ?_
  refine s_getR (r := 65) (tb_ok aX6_describe_0 1 rfl) f_RX6_11 rfl rfl rfl ?_
  refine s_iconst (v := nI 0) (tb_ok aX6_describe_0 2 rfl) (by decide) ?_
  refine s_iload_n (tb_ok aX6_describe_0 3 rfl) rfl ?_
  refine s_iastN (tb_ok aX6_describe_0 4 rfl) rfl (by decide) (by decide) ?_
  refine s_aload_n (tb_ok aX6_describe_0 5 rfl) rfl ?_
  refine s_getR (r := 65) (tb_ok aX6_describe_0 6 rfl) f_RX6_11 rfl rfl rfl ?_
  refine s_iconst (v := nI 1) (tb_ok aX6_describe_0 7 rfl) (by decide) ?_
  refine s_aload_n (tb_ok aX6_describe_0 8 rfl) rfl ?_
  refine s_getI (tb_ok aX6_describe_0 9 rfl) f_RX6_58 ho rfl rfl ?_
  refine s_iastN (tb_ok aX6_describe_0 10 rfl) rfl (by decide) (by decide) ?_
  refine s_aload_n (tb_ok aX6_describe_0 11 rfl) rfl ?_
  refine s_getR (r := 65) (tb_ok aX6_describe_0 12 rfl) f_RX6_11 rfl rfl rfl ?_
  refine s_iconst (v := nI 2) (tb_ok aX6_describe_0 13 rfl) (by decide) ?_
  refine s_aload_n (tb_ok aX6_describe_0 14 rfl) rfl ?_
  refine s_getI (tb_ok aX6_describe_0 15 rfl) f_RX6_43 ho rfl rfl ?_
  refine s_iastN (tb_ok aX6_describe_0 16 rfl) rfl (by decide) (by decide) ?_
  refine s_aload_n (tb_ok aX6_describe_0 17 rfl) rfl ?_
  refine s_getR (r := 65) (tb_ok aX6_describe_0 18 rfl) f_RX6_11 rfl rfl rfl ?_
  refine s_iconst (v := nI 3) (tb_ok aX6_describe_0 19 rfl) (by decide) ?_
  refine s_iload_n (tb_ok aX6_describe_0 20 rfl) rfl ?_
  refine s_iastN (tb_ok aX6_describe_0 21 rfl) rfl (by decide) (by decide) ?_
  refine s_aload_n (tb_ok aX6_describe_0 22 rfl) rfl ?_
  refine s_getR (r := 65) (tb_ok aX6_describe_0 23 rfl) f_RX6_11 rfl rfl rfl ?_
  refine s_iconst (v := nI 4) (tb_ok aX6_describe_1 0 rfl) (by decide) ?_
  refine s_aload_n (tb_ok aX6_describe_1 1 rfl) rfl ?_
  refine s_getI (tb_ok aX6_describe_1 2 rfl) f_RX6_25 ho rfl rfl ?_
  refine s_cSp (as := [_]) (tb_ok aX6_describe_1 3 rfl) v_RX6_91 (E_bc _) (by decide) rfl rfl (Nat.le_of_ble_eq_true rfl) ?_
  refine s_iastN (tb_ok aX6_describe_1 4 rfl) rfl (by decide) (by decide) ?_
  refine s_aload_n (tb_ok aX6_describe_1 5 rfl) rfl ?_
  refine s_getR (r := 65) (tb_ok aX6_describe_1 6 rfl) f_RX6_11 rfl rfl rfl ?_
  refine s_iconst (v := nI 5) (tb_ok aX6_describe_1 7 rfl) (by decide) ?_
  refine s_aload_n (tb_ok aX6_describe_1 8 rfl) rfl ?_
  refine s_getI (tb_ok aX6_describe_1 9 rfl) f_RX6_83 ho rfl rfl ?_
  refine s_iastN (tb_ok aX6_describe_1 10 rfl) rfl (by decide) (by decide) ?_
  refine s_vret (tb_ok aX6_describe_1 11 rfl) rfl ?_
  refine ⟨rfl, rfl, ?_, rfl, rfl⟩
  simp only [up2_eq, setO_2, setO_o]
  refine ⟨_, ?_, rfl⟩
  intro j hj
  match j, hj with
  | 0, _ => simp [upd, nmT, nmF, setO, hw]
  | 1, _ => simp [upd, nmT, nmF, setO, hw]
  | 2, _ => simp [upd, nmT, nmF, setO, hw]
  | 3, _ => simp [upd, nmT, nmF, setO, hw]
  | 4, _ => simp [upd, nmT, nmF, setO, hw]
  | 5, _ => simp [upd, nmT, nmF, setO, hw]

theorem E_say {X : En} {I : FI} {L : FL} {q : Nat × Nat} {ri : Nat} (hri : ri < 6) {sem : Nat → (Nat → Int32) → Int32} (hs : okRule I (ruleN ri) sem) {pt : Nat} (hp : pt < 3) {g f : Nat → Int32} (hg : ∀ j, j < 6 → g j = f j) : Ev X 1 mX4_value (0, 0) [.ref (ruleN ri), .int (nI pt), .ref 65] S0 (setO I 65 g) L (R0 q) (AgR (some (.int (sem pt f))) I L q) := by
  obtain ⟨w1, w2, w3, w4⟩ := rule_W hri
  have hs2 : okRule (setO I 65 g) (ruleN ri) sem := hs.ag hri (AgW.set (by decide))
  obtain ⟨e, h1, h2, h3, h4, h5⟩ := id hs2
  have hne : (65 : Nat) ≠ ruleN ri + 3 := by unfold ruleN; omega
  refine ev_mono (E_value (rule0 q hri) rfl hne h1 (fun j hj => ?_) hp rfl ?_) (fun r' S' I' L' R' hq => ?_)
  · rcases (show j = 0 ∨ j = 1 ∨ j = 2 by omega) with rfl | rfl | rfl <;> omega
  · rcases (show pt = 0 ∨ pt = 1 ∨ pt = 2 by omega) with rfl | rfl | rfl
    · exact Nat.zero_le _
    · exact h2
    · exact h3
  · obtain ⟨rfl, rfl, rfl, rfl, rfl⟩ := hq
    refine ⟨?_, rfl, AgW.tr (AgW.set (by decide)) (AgW.set w4), rfl, rfl⟩
    rw [h5 pt hp, setO_o, hs2.nm hp hg]
set_option maxRecDepth 100000 in
set_option maxHeartbeats 4000000 in
theorem E_fall {X : En} {I : FI} {L : FL} {q : Nat × Nat} {ri : Nat} (hri : ri < 6) (hq : q.1 = ruleN ri) {sem : Nat → (Nat → Int32) → Int32} (hs : okRule I (ruleN ri) sem) {o : Nat} (ho : S0[o]? = some (5, 5)) (fact day : Int32) : Ev X 3 mX6_fall (0, 0) [.ref 64, .ref o, .int fact, .int day] S0 I L (R0 q) (AgR (some (.int (fallP sem (I o) fact day))) I L q) := by
  have hw : o ≠ 65 := fun e => by rw [e] at ho; cases ho
  refine ev_of (by decide +kernel) rfl ?_
  show SW X _ _ _ 0 [some (.ref 64), some (.ref o), some (.int fact), some (.int day), none] [] S0 I L (R0 q) _
  refine s_aload_n (tb_ok aX6_fall_0 0 rfl) rfl ?_
  refine s_aload_n (tb_ok aX6_fall_0 1 rfl) rfl ?_
  refine s_iload_n (tb_ok aX6_fall_0 2 rfl) rfl ?_
  refine s_iload_n (tb_ok aX6_fall_0 3 rfl) rfl ?_
  refine s_cV (as := [.ref o, .int fact, .int day]) (tb_ok aX6_fall_0 4 rfl) v_RX6_46 (E_describe ho fact day) (by decide) rfl rfl rfl rfl rfl (Nat.le_of_ble_eq_true rfl) (by decide) (fun r1 S1 I1 L1 R1 q1 => ?_)
  obtain ⟨rfl, rfl, ⟨g1, hg1, rfl⟩, rfl, rfl⟩ := q1
  refine s_aload_n (tb_ok aX6_fall_0 5 rfl) rfl ?_
  refine s_getR (r := (ruleN ri)) (tb_ok aX6_fall_0 6 rfl) f_RX6_21 rfl rfl (congrArg some hq) ?_
  refine s_iconst (v := nI 0) (tb_ok aX6_fall_0 7 rfl) (by decide) ?_
  refine s_aload_n (tb_ok aX6_fall_0 8 rfl) rfl ?_
  refine s_getR (r := 65) (tb_ok aX6_fall_0 9 rfl) f_RX6_11 rfl rfl rfl ?_
  refine s_cV (as := [.int (nI 0), .ref 65]) (tb_ok aX6_fall_0 10 rfl) v_RX6_50 (E_say hri hs (by decide) hg1) (by decide) (rule0 q hri).1 rfl rfl rfl rfl (Nat.le_of_ble_eq_true rfl) (by decide) (fun r2 S2 I2 L2 R2 q2 => ?_)
  obtain ⟨rfl, rfl, hA2, rfl, rfl⟩ := q2
  have eo2 := hA2 _ (tree_W0 ho)
  refine s_iconst (v := 0) (tb_ok aX6_fall_0 11 rfl) (by decide) ?_
  refine s_bipush (v := 99) (tb_ok aX6_fall_0 12 rfl) (by decide) ?_
  refine s_cSNp (as := [.int (sem 0 (nmT (I o) fact day)), .int (0), .int (99)]) (tb_ok aX6_fall_0 13 rfl) v_RX6_54 (E_held _ _ _) (by decide) rfl rfl (Nat.le_of_ble_eq_true rfl) ?_
  refine s_name (fun x1 ex1 => ?_)
  refine s_istore (ls' := [some (.ref 64), some (.ref o), some (.int fact), some (.int day), some (.int x1)]) (tb_ok aX6_fall_0 14 rfl) rfl rfl ?_
  refine s_aload_n (tb_ok aX6_fall_0 15 rfl) rfl ?_
  refine s_getI (x := (I o 0)) (tb_ok aX6_fall_0 16 rfl) f_RX6_37 ho rfl (by first | rfl | (rw [eo2]; done) | (rw [setO_n hw]; done)) ?_
  obtain ⟨kd, ek⟩ : ∃ kd, kd = I o 0 := ⟨_, rfl⟩
  rw [← ek]
  by_cases e1 : kd = 1
  · subst e1
    refine s_tableIn (off := 33) (tgt := 64) (tb_ok aX6_fall_0 17 rfl) (by decide) (by decide) rfl (by decide) ?_
    refine s_iload (tb_ok aX6_fall_0 18 rfl) rfl ?_
    refine s_iconst (v := 2) (tb_ok aX6_fall_0 19 rfl) (by decide) ?_
    refine s_idiv (tb_ok aX6_fall_0 20 rfl) (by decide) ?_
    refine s_iret (tb_ok aX6_fall_0 21 rfl) rfl ?_
    refine ⟨?_, rfl, hA2, rfl, rfl⟩
    rw [fallP, ← ek, ← ex1]
    rfl
  by_cases e2 : kd = 2
  · subst e2
    refine s_tableIn (off := 38) (tgt := 69) (tb_ok aX6_fall_0 17 rfl) (by decide) (by decide) rfl (by decide) ?_
    refine s_iload (tb_ok aX6_fall_0 22 rfl) rfl ?_
    refine s_iconst (v := 1) (tb_ok aX6_fall_0 23 rfl) (by decide) ?_
    refine s_iadd (tb_ok aX6_fall_1 0 rfl) ?_
    refine s_iconst (v := 0) (tb_ok aX6_fall_1 1 rfl) (by decide) ?_
    refine s_bipush (v := 99) (tb_ok aX6_fall_1 2 rfl) (by decide) ?_
    refine s_cSNp (as := [_, .int (0), .int (99)]) (tb_ok aX6_fall_1 3 rfl) v_RX6_54 (E_held _ _ _) (by decide) rfl rfl (Nat.le_of_ble_eq_true rfl) ?_
    refine s_iret (tb_ok aX6_fall_1 4 rfl) rfl ?_
    refine ⟨?_, rfl, hA2, rfl, rfl⟩
    rw [fallP, ← ek, ← ex1]
    rfl
  by_cases e3 : kd = 3
  · subst e3
    refine s_tableIn (off := 49) (tgt := 80) (tb_ok aX6_fall_0 17 rfl) (by decide) (by decide) rfl (by decide) ?_
    refine s_iload (tb_ok aX6_fall_1 5 rfl) rfl ?_
    refine s_iconst (v := 2) (tb_ok aX6_fall_1 6 rfl) (by decide) ?_
    refine s_idiv (tb_ok aX6_fall_1 7 rfl) (by decide) ?_
    refine s_aload_n (tb_ok aX6_fall_1 8 rfl) rfl ?_
    refine s_getI (x := (I o 1)) (tb_ok aX6_fall_1 9 rfl) f_RX6_43 ho rfl (by first | rfl | (rw [eo2]; done) | (rw [setO_n hw]; done)) ?_
    refine s_iadd (tb_ok aX6_fall_1 10 rfl) ?_
    refine s_iconst (v := 0) (tb_ok aX6_fall_1 11 rfl) (by decide) ?_
    refine s_bipush (v := 99) (tb_ok aX6_fall_1 12 rfl) (by decide) ?_
    refine s_cSNp (as := [_, .int (0), .int (99)]) (tb_ok aX6_fall_1 13 rfl) v_RX6_54 (E_held _ _ _) (by decide) rfl rfl (Nat.le_of_ble_eq_true rfl) ?_
    refine s_iret (tb_ok aX6_fall_1 14 rfl) rfl ?_
    refine ⟨?_, rfl, hA2, rfl, rfl⟩
    rw [fallP, ← ek, ← ex1]
    rfl
  by_cases e4 : kd = 4
  · subst e4
    refine s_tableIn (off := 38) (tgt := 69) (tb_ok aX6_fall_0 17 rfl) (by decide) (by decide) rfl (by decide) ?_
    refine s_iload (tb_ok aX6_fall_0 22 rfl) rfl ?_
    refine s_iconst (v := 1) (tb_ok aX6_fall_0 23 rfl) (by decide) ?_
    refine s_iadd (tb_ok aX6_fall_1 0 rfl) ?_
    refine s_iconst (v := 0) (tb_ok aX6_fall_1 1 rfl) (by decide) ?_
    refine s_bipush (v := 99) (tb_ok aX6_fall_1 2 rfl) (by decide) ?_
    refine s_cSNp (as := [_, .int (0), .int (99)]) (tb_ok aX6_fall_1 3 rfl) v_RX6_54 (E_held _ _ _) (by decide) rfl rfl (Nat.le_of_ble_eq_true rfl) ?_
    refine s_iret (tb_ok aX6_fall_1 4 rfl) rfl ?_
    refine ⟨?_, rfl, hA2, rfl, rfl⟩
    rw [fallP, ← ek, ← ex1]
    rfl
  by_cases e5 : kd = 5
  · subst e5
    refine s_tableIn (off := 65) (tgt := 96) (tb_ok aX6_fall_0 17 rfl) (by decide) (by decide) rfl (by decide) ?_
    refine s_aload_n (tb_ok aX6_fall_1 15 rfl) rfl ?_
    refine s_getI (x := (I o 4)) (tb_ok aX6_fall_1 16 rfl) f_RX6_58 ho rfl (by first | rfl | (rw [eo2]; done) | (rw [setO_n hw]; done)) ?_
    refine s_bipush (v := 50) (tb_ok aX6_fall_1 17 rfl) (by decide) ?_
    refine s_icmp_le (tgt := 118) (tb_ok aX6_fall_1 18 rfl) (by decide) (fun c102 => ?_) (fun c102 => ?_)
    · refine s_iconst (v := 0) (tb_ok aX6_fall_2 2 rfl) (by decide) ?_
      refine s_iret (tb_ok aX6_fall_2 3 rfl) rfl ?_
      refine ⟨?_, rfl, hA2, rfl, rfl⟩
      rw [fallP, ← ek, ← ex1]
      show some (Value.int _) = some (Value.int (if 50 < I o 4 then held (2 * x1) 0 99 else 0))
      first | rw [if_pos (Int32.not_le.mp c102)] | rw [if_neg (Int32.not_lt.mpr c102)]
    · refine s_iconst (v := 2) (tb_ok aX6_fall_1 19 rfl) (by decide) ?_
      refine s_iload (tb_ok aX6_fall_1 20 rfl) rfl ?_
      refine s_imul (tb_ok aX6_fall_1 21 rfl) ?_
      refine s_iconst (v := 0) (tb_ok aX6_fall_1 22 rfl) (by decide) ?_
      refine s_bipush (v := 99) (tb_ok aX6_fall_1 23 rfl) (by decide) ?_
      refine s_cSNp (as := [_, .int (0), .int (99)]) (tb_ok aX6_fall_2 0 rfl) v_RX6_54 (E_held _ _ _) (by decide) rfl rfl (Nat.le_of_ble_eq_true rfl) ?_
      refine s_goto (tgt := 119) (tb_ok aX6_fall_2 1 rfl) (by decide) ?_
      refine s_iret (tb_ok aX6_fall_2 3 rfl) rfl ?_
      refine ⟨?_, rfl, hA2, rfl, rfl⟩
      rw [fallP, ← ek, ← ex1]
      show some (Value.int _) = some (Value.int (if 50 < I o 4 then held (2 * x1) 0 99 else 0))
      first | rw [if_pos (Int32.not_le.mp c102)] | rw [if_neg (Int32.not_lt.mpr c102)]
  · refine s_tableOut (tgt := 120) (tb_ok aX6_fall_0 17 rfl) ?_ (by decide) ?_
    · by_cases h : kd.toInt < 1
      · exact Or.inl h
      · by_cases h2 : 5 < kd.toInt
        · exact Or.inr h2
        · exfalso
          have q1 : ¬ kd.toInt = 1 := fun h => e1 (Int32.toInt_inj.mp h)
          have q2 : ¬ kd.toInt = 2 := fun h => e2 (Int32.toInt_inj.mp h)
          have q3 : ¬ kd.toInt = 3 := fun h => e3 (Int32.toInt_inj.mp h)
          have q4 : ¬ kd.toInt = 4 := fun h => e4 (Int32.toInt_inj.mp h)
          have q5 : ¬ kd.toInt = 5 := fun h => e5 (Int32.toInt_inj.mp h)
          omega
    · refine s_iload (tb_ok aX6_fall_2 4 rfl) rfl ?_
      refine s_iret (tb_ok aX6_fall_2 5 rfl) rfl ?_
      refine ⟨?_, rfl, hA2, rfl, rfl⟩
      rw [fallP, ← ek, ← ex1]
      simp only [if_neg e1, if_neg e2, if_neg e3, if_neg e4, if_neg e5]

set_option maxRecDepth 100000 in
set_option maxHeartbeats 4000000 in
theorem E_understands {X : En} {I : FI} {L : FL} {q : Nat × Nat} {m : Nat} (hm : I 1 3 = nI m) (hm10 : m ≤ 10) {o : Nat} (ho : S0[o]? = some (5, 5)) (day : Int32) : Ev X 3 mX6_understands (0, 0) [.ref 64, .ref o, .int day] S0 I L (R0 q) (PureR (some (.int (undP (I 2) (I 3) m (I o) day))) S0 I L (R0 q)) := by
  refine ev_of (by decide +kernel) rfl ?_
  show SW X _ _ _ 0 [some (.ref 64), some (.ref o), some (.int day), none, none] [] S0 I L (R0 q) _
  refine s_aload_n (tb_ok aX6_understands_0 0 rfl) rfl ?_
  refine s_getR (r := 1) (tb_ok aX6_understands_0 1 rfl) f_RX6_17 rfl rfl rfl ?_
  refine s_aload_n (tb_ok aX6_understands_0 2 rfl) rfl ?_
  refine s_getI (x := (I o 2)) (tb_ok aX6_understands_0 3 rfl) f_RX6_25 ho rfl rfl ?_
  refine s_iconst (v := -1) (tb_ok aX6_understands_0 4 rfl) (by decide) ?_
  refine s_cVp (as := [.int (I o 2), .int (-1)]) (tb_ok aX6_understands_0 5 rfl) v_RX6_31 (E_next (lore0 q) hm hm10 _ _) (by decide) rfl rfl rfl rfl rfl (Nat.le_of_ble_eq_true rfl) (by decide) ?_
  refine s_name (fun x1 ex1 => ?_)
  refine s_istore_n (ls' := [some (.ref 64), some (.ref o), some (.int day), some (.int x1), none]) (tb_ok aX6_understands_0 6 rfl) rfl rfl ?_
  refine s_iload_n (tb_ok aX6_understands_0 7 rfl) rfl ?_
  refine s_iload_n (tb_ok aX6_understands_0 8 rfl) rfl ?_
  refine s_ineg (tb_ok aX6_understands_0 9 rfl) ?_
  refine s_iand (tb_ok aX6_understands_0 10 rfl) ?_
  refine s_name (fun x2 ex2 => ?_)
  refine s_istore (ls' := [some (.ref 64), some (.ref o), some (.int day), some (.int x1), some (.int x2)]) (tb_ok aX6_understands_0 11 rfl) rfl rfl ?_
  refine s_aload_n (tb_ok aX6_understands_0 12 rfl) rfl ?_
  refine s_getI (x := (I o 0)) (tb_ok aX6_understands_0 13 rfl) f_RX6_37 ho rfl rfl ?_
  obtain ⟨kd, ek⟩ : ∃ kd, kd = I o 0 := ⟨_, rfl⟩
  rw [← ek]
  by_cases e1 : kd = 1
  · subst e1
    refine s_tableIn (off := 33) (tgt := 56) (tb_ok aX6_understands_0 14 rfl) (by decide) (by decide) rfl (by decide) ?_
    refine s_iload (tb_ok aX6_understands_0 15 rfl) rfl ?_
    refine s_iret (tb_ok aX6_understands_0 16 rfl) rfl ?_
    refine pureE ?_
    rw [undP, ← ek]
    first | rfl | (subst_vars; simp; done)
  by_cases e2 : kd = 2
  · subst e2
    refine s_tableIn (off := 36) (tgt := 59) (tb_ok aX6_understands_0 14 rfl) (by decide) (by decide) rfl (by decide) ?_
    refine s_aload_n (tb_ok aX6_understands_0 17 rfl) rfl ?_
    refine s_getR (r := 1) (tb_ok aX6_understands_0 18 rfl) f_RX6_17 rfl rfl rfl ?_
    refine s_aload_n (tb_ok aX6_understands_0 19 rfl) rfl ?_
    refine s_getI (x := (I o 2)) (tb_ok aX6_understands_0 20 rfl) f_RX6_25 ho rfl rfl ?_
    refine s_iconst (v := -1) (tb_ok aX6_understands_0 21 rfl) (by decide) ?_
    refine s_cVp (as := [.int (I o 2), .int (-1)]) (tb_ok aX6_understands_0 22 rfl) v_RX6_40 (E_closure (lore0 q) hm hm10 _ _) (by decide) rfl rfl rfl rfl rfl (Nat.le_of_ble_eq_true rfl) (by decide) ?_
    refine s_aload_n (tb_ok aX6_understands_0 23 rfl) rfl ?_
    refine s_getI (x := (I o 2)) (tb_ok aX6_understands_1 0 rfl) f_RX6_25 ho rfl rfl ?_
    refine s_iconst (v := -1) (tb_ok aX6_understands_1 1 rfl) (by decide) ?_
    refine s_ixor (tb_ok aX6_understands_1 2 rfl) ?_
    refine s_iand (tb_ok aX6_understands_1 3 rfl) ?_
    refine s_iret (tb_ok aX6_understands_1 4 rfl) rfl ?_
    refine pureE ?_
    rw [undP, ← ek]
    first | rfl | (subst_vars; simp; done)
  by_cases e3 : kd = 3
  · subst e3
    refine s_tableIn (off := 56) (tgt := 79) (tb_ok aX6_understands_0 14 rfl) (by decide) (by decide) rfl (by decide) ?_
    refine s_iload_n (tb_ok aX6_understands_1 5 rfl) rfl ?_
    refine s_iconst (v := 2) (tb_ok aX6_understands_1 6 rfl) (by decide) ?_
    refine s_irem (tb_ok aX6_understands_1 7 rfl) (by decide) ?_
    refine s_if_ne (tgt := 90) (tb_ok aX6_understands_1 8 rfl) (by decide) (fun c82 => ?_) (fun c82 => ?_)
    · refine s_iconst (v := 0) (tb_ok aX6_understands_1 11 rfl) (by decide) ?_
      refine s_iret (tb_ok aX6_understands_1 12 rfl) rfl ?_
      refine pureE ?_
      rw [undP, ← ek]
      show some (Value.int _) = some (Value.int (if day - day / 2 * 2 = 0 then nx (I 2) (I 3) m (I o 2) (-1) &&& -nx (I 2) (I 3) m (I o 2) (-1) else 0))
      rw [← ex1, ← ex2]
      first | (rw [if_pos c82]; done) | (rw [if_neg c82]; done)
    · refine s_iload (tb_ok aX6_understands_1 9 rfl) rfl ?_
      refine s_goto (tgt := 91) (tb_ok aX6_understands_1 10 rfl) (by decide) ?_
      refine s_iret (tb_ok aX6_understands_1 12 rfl) rfl ?_
      refine pureE ?_
      rw [undP, ← ek]
      show some (Value.int _) = some (Value.int (if day - day / 2 * 2 = 0 then nx (I 2) (I 3) m (I o 2) (-1) &&& -nx (I 2) (I 3) m (I o 2) (-1) else 0))
      rw [← ex1, ← ex2]
      first | (rw [if_pos c82]; done) | (rw [if_neg c82]; done)
  by_cases e4 : kd = 4
  · subst e4
    refine s_tableIn (off := 69) (tgt := 92) (tb_ok aX6_understands_0 14 rfl) (by decide) (by decide) rfl (by decide) ?_
    refine s_aload_n (tb_ok aX6_understands_1 13 rfl) rfl ?_
    refine s_getR (r := 1) (tb_ok aX6_understands_1 14 rfl) f_RX6_17 rfl rfl rfl ?_
    refine s_aload_n (tb_ok aX6_understands_1 15 rfl) rfl ?_
    refine s_getI (x := (I o 2)) (tb_ok aX6_understands_1 16 rfl) f_RX6_25 ho rfl rfl ?_
    refine s_iconst (v := -1) (tb_ok aX6_understands_1 17 rfl) (by decide) ?_
    refine s_cVp (as := [.int (I o 2), .int (-1)]) (tb_ok aX6_understands_1 18 rfl) v_RX6_40 (E_closure (lore0 q) hm hm10 _ _) (by decide) rfl rfl rfl rfl rfl (Nat.le_of_ble_eq_true rfl) (by decide) ?_
    refine s_aload_n (tb_ok aX6_understands_1 19 rfl) rfl ?_
    refine s_getI (x := (I o 2)) (tb_ok aX6_understands_1 20 rfl) f_RX6_25 ho rfl rfl ?_
    refine s_iconst (v := -1) (tb_ok aX6_understands_1 21 rfl) (by decide) ?_
    refine s_ixor (tb_ok aX6_understands_1 22 rfl) ?_
    refine s_iand (tb_ok aX6_understands_1 23 rfl) ?_
    refine s_iconst (v := 1) (tb_ok aX6_understands_2 0 rfl) (by decide) ?_
    refine s_aload_n (tb_ok aX6_understands_2 1 rfl) rfl ?_
    refine s_getI (x := (I o 1)) (tb_ok aX6_understands_2 2 rfl) f_RX6_43 ho rfl rfl ?_
    refine s_ishl (tb_ok aX6_understands_2 3 rfl) ?_
    refine s_iconst (v := -1) (tb_ok aX6_understands_2 4 rfl) (by decide) ?_
    refine s_ixor (tb_ok aX6_understands_2 5 rfl) ?_
    refine s_iand (tb_ok aX6_understands_2 6 rfl) ?_
    refine s_iret (tb_ok aX6_understands_2 7 rfl) rfl ?_
    refine pureE ?_
    rw [undP, ← ek]
    first | rfl | (subst_vars; simp; done)
  by_cases e5 : kd = 5
  · subst e5
    refine s_tableIn (off := 98) (tgt := 121) (tb_ok aX6_understands_0 14 rfl) (by decide) (by decide) rfl (by decide) ?_
    refine s_iload_n (tb_ok aX6_understands_2 8 rfl) rfl ?_
    refine s_iload (tb_ok aX6_understands_2 9 rfl) rfl ?_
    refine s_icmp_ne (tgt := 131) (tb_ok aX6_understands_2 10 rfl) (by decide) (fun c124 => ?_) (fun c124 => ?_)
    · refine s_iload_n (tb_ok aX6_understands_2 13 rfl) rfl ?_
      refine s_iret (tb_ok aX6_understands_2 14 rfl) rfl ?_
      refine pureE ?_
      rw [undP, ← ek]
      show some (Value.int _) = some (Value.int (if nx (I 2) (I 3) m (I o 2) (-1) = nx (I 2) (I 3) m (I o 2) (-1) &&& -nx (I 2) (I 3) m (I o 2) (-1) then 0 else nx (I 2) (I 3) m (I o 2) (-1)))
      rw [← ex1, ← ex2]
      first | (rw [if_pos c124]; done) | (rw [if_neg c124]; done)
    · refine s_iconst (v := 0) (tb_ok aX6_understands_2 11 rfl) (by decide) ?_
      refine s_goto (tgt := 132) (tb_ok aX6_understands_2 12 rfl) (by decide) ?_
      refine s_iret (tb_ok aX6_understands_2 14 rfl) rfl ?_
      refine pureE ?_
      rw [undP, ← ek]
      show some (Value.int _) = some (Value.int (if nx (I 2) (I 3) m (I o 2) (-1) = nx (I 2) (I 3) m (I o 2) (-1) &&& -nx (I 2) (I 3) m (I o 2) (-1) then 0 else nx (I 2) (I 3) m (I o 2) (-1)))
      rw [← ex1, ← ex2]
      first | (rw [if_pos c124]; done) | (rw [if_neg c124]; done)
  · refine s_tableOut (tgt := 133) (tb_ok aX6_understands_0 14 rfl) ?_ (by decide) ?_
    · by_cases h : kd.toInt < 1
      · exact Or.inl h
      · by_cases h2 : 5 < kd.toInt
        · exact Or.inr h2
        · exfalso
          have q1 : ¬ kd.toInt = 1 := fun h => e1 (Int32.toInt_inj.mp h)
          have q2 : ¬ kd.toInt = 2 := fun h => e2 (Int32.toInt_inj.mp h)
          have q3 : ¬ kd.toInt = 3 := fun h => e3 (Int32.toInt_inj.mp h)
          have q4 : ¬ kd.toInt = 4 := fun h => e4 (Int32.toInt_inj.mp h)
          have q5 : ¬ kd.toInt = 5 := fun h => e5 (Int32.toInt_inj.mp h)
          omega
    · refine s_iload_n (tb_ok aX6_understands_2 15 rfl) rfl ?_
      refine s_iret (tb_ok aX6_understands_2 16 rfl) rfl ?_
      refine pureE ?_
      rw [undP, ← ek]
      simp only [if_neg e1, if_neg e2, if_neg e3, if_neg e4, if_neg e5, ← ex1]

set_option maxRecDepth 100000 in
set_option maxHeartbeats 4000000 in
theorem E_takes {X : En} {I : FI} {L : FL} {q : Nat × Nat} {m : Nat} (hm : I 1 3 = nI m) (hm10 : m ≤ 10) {ri : Nat} (hri : ri < 6) (hq : q.1 = ruleN ri) {sem : Nat → (Nat → Int32) → Int32} (hs : okRule I (ruleN ri) sem) {o : Nat} (ho : S0[o]? = some (5, 5)) (fact day : Int32) : Ev X 3 mX6_takes (0, 0) [.ref 64, .ref o, .int fact, .int day] S0 I L (R0 q) (AgR (some (.int (takI sem (I 2) (I 3) m (I o) fact day))) I L q) := by
  have hw : o ≠ 65 := fun e => by rw [e] at ho; cases ho
  refine ev_of (by decide +kernel) rfl ?_
  show SW X _ _ _ 0 [some (.ref 64), some (.ref o), some (.int fact), some (.int day), none] [] S0 I L (R0 q) _
  refine s_aload_n (tb_ok aX6_takes_0 0 rfl) rfl ?_
  refine s_getI (x := (I o 0)) (tb_ok aX6_takes_0 1 rfl) f_RX6_37 ho rfl (by first | rfl | (rw [eo2]; done) | (rw [setO_n hw]; done)) ?_
  refine s_iconst (v := 2) (tb_ok aX6_takes_0 2 rfl) (by decide) ?_
  refine s_icmp_ne (tgt := 10) (tb_ok aX6_takes_0 3 rfl) (by decide) (fun c5 => ?_) (fun c5 => ?_)
  · refine s_aload_n (tb_ok aX6_takes_0 6 rfl) rfl ?_
    refine s_getI (x := (I o 0)) (tb_ok aX6_takes_0 7 rfl) f_RX6_37 ho rfl (by first | rfl | (rw [eo2]; done) | (rw [setO_n hw]; done)) ?_
    refine s_iconst (v := 4) (tb_ok aX6_takes_0 8 rfl) (by decide) ?_
    refine s_icmp_ne (tgt := 32) (tb_ok aX6_takes_0 9 rfl) (by decide) (fun c15 => ?_) (fun c15 => ?_)
    · refine s_aload_n (tb_ok aX6_takes_0 18 rfl) rfl ?_
      refine s_aload_n (tb_ok aX6_takes_0 19 rfl) rfl ?_
      refine s_iload_n (tb_ok aX6_takes_0 20 rfl) rfl ?_
      refine s_iload_n (tb_ok aX6_takes_0 21 rfl) rfl ?_
      refine s_cV (as := [.ref o, .int fact, .int day]) (tb_ok aX6_takes_0 22 rfl) v_RX6_46 (E_describe ho fact day) (by decide) rfl rfl rfl rfl rfl (Nat.le_of_ble_eq_true rfl) (by decide) (fun r1 S1 I1 L1 R1 q1 => ?_)
      obtain ⟨rfl, rfl, ⟨g1, hg1, rfl⟩, rfl, rfl⟩ := q1
      refine s_aload_n (tb_ok aX6_takes_0 23 rfl) rfl ?_
      refine s_getR (r := (ruleN ri)) (tb_ok aX6_takes_1 0 rfl) f_RX6_21 rfl rfl (congrArg some hq) ?_
      refine s_iconst (v := nI 2) (tb_ok aX6_takes_1 1 rfl) (by decide) ?_
      refine s_aload_n (tb_ok aX6_takes_1 2 rfl) rfl ?_
      refine s_getR (r := 65) (tb_ok aX6_takes_1 3 rfl) f_RX6_11 rfl rfl rfl ?_
      refine s_cV (as := [.int (nI 2), .ref 65]) (tb_ok aX6_takes_1 4 rfl) v_RX6_50 (E_say hri hs (by decide) hg1) (by decide) (rule0 q hri).1 rfl rfl rfl rfl (Nat.le_of_ble_eq_true rfl) (by decide) (fun r2 S2 I2 L2 R2 q2 => ?_)
      obtain ⟨rfl, rfl, hA2, rfl, rfl⟩ := q2
      have eo2 := hA2 _ (tree_W0 ho)
      refine s_if_eq (tgt := 58) (tb_ok aX6_takes_1 5 rfl) (by decide) (fun c51 => ?_) (fun c51 => ?_)
      · refine s_iconst (v := 0) (tb_ok aX6_takes_1 8 rfl) (by decide) ?_
        refine s_istore (ls' := [some (.ref 64), some (.ref o), some (.int fact), some (.int day), some (.int (0))]) (tb_ok aX6_takes_1 9 rfl) rfl rfl ?_
        refine s_iload (tb_ok aX6_takes_1 10 rfl) rfl ?_
        refine s_if_eq (tgt := 93) (tb_ok aX6_takes_1 11 rfl) (by decide) (fun c63 => ?_) (fun c63 => ?_)
        · refine s_iconst (v := 0) (tb_ok aX6_takes_2 1 rfl) (by decide) ?_
          refine s_zret (tb_ok aX6_takes_2 2 rfl) rfl ?_ ?_
          exact Or.inl rfl
          refine ⟨congrArg (fun z => some (Value.int z)) ?_, rfl, hA2, rfl, rfl⟩
          rw [takI, if_neg c5, if_neg c15]
          first | (rw [bI_f (fun h => h.1 c51)]; done) | (rw [bI_f (fun h => h.2.elim (fun k => k c71) (fun k => k c86))]; done)
        · exact absurd c63 (by decide)
      · refine s_iconst (v := 1) (tb_ok aX6_takes_1 6 rfl) (by decide) ?_
        refine s_goto (tgt := 59) (tb_ok aX6_takes_1 7 rfl) (by decide) ?_
        refine s_istore (ls' := [some (.ref 64), some (.ref o), some (.int fact), some (.int day), some (.int (1))]) (tb_ok aX6_takes_1 9 rfl) rfl rfl ?_
        refine s_iload (tb_ok aX6_takes_1 10 rfl) rfl ?_
        refine s_if_eq (tgt := 93) (tb_ok aX6_takes_1 11 rfl) (by decide) (fun c63 => ?_) (fun c63 => ?_)
        · exact absurd c63 (by decide)
        · refine s_aload_n (tb_ok aX6_takes_1 12 rfl) rfl ?_
          refine s_getI (x := (I o 0)) (tb_ok aX6_takes_1 13 rfl) f_RX6_37 ho rfl (by first | rfl | (rw [eo2]; done) | (rw [setO_n hw]; done)) ?_
          refine s_iconst (v := 1) (tb_ok aX6_takes_1 14 rfl) (by decide) ?_
          refine s_icmp_ne (tgt := 89) (tb_ok aX6_takes_1 15 rfl) (by decide) (fun c71 => ?_) (fun c71 => ?_)
          · refine s_iconst (v := 1) (tb_ok aX6_takes_1 23 rfl) (by decide) ?_
            refine s_goto (tgt := 94) (tb_ok aX6_takes_2 0 rfl) (by decide) ?_
            refine s_zret (tb_ok aX6_takes_2 2 rfl) rfl ?_ ?_
            exact Or.inr rfl
            refine ⟨congrArg (fun z => some (Value.int z)) ?_, rfl, hA2, rfl, rfl⟩
            rw [takI, if_neg c5, if_neg c15]
            first | (rw [bI_t ⟨c51, Or.inr c86⟩]; done) | (rw [bI_t ⟨c51, Or.inl c71⟩]; done)
          · refine s_aload_n (tb_ok aX6_takes_1 16 rfl) rfl ?_
            refine s_getR (r := 1) (tb_ok aX6_takes_1 17 rfl) f_RX6_17 rfl rfl rfl ?_
            refine s_aload_n (tb_ok aX6_takes_1 18 rfl) rfl ?_
            refine s_getI (x := (I o 2)) (tb_ok aX6_takes_1 19 rfl) f_RX6_25 ho rfl (by first | rfl | (rw [eo2]; done) | (rw [setO_n hw]; done)) ?_
            refine s_iconst (v := -1) (tb_ok aX6_takes_1 20 rfl) (by decide) ?_
            refine s_cVp (as := [.int (I o 2), .int (-1)]) (tb_ok aX6_takes_1 21 rfl) v_RX6_31 (E_next (lore0 q) (by rw [hA2 1 (by decide)]; exact hm) hm10 _ _) (by decide) rfl rfl rfl rfl rfl (Nat.le_of_ble_eq_true rfl) (by decide) ?_
            refine s_topi (z := nx (I 2) (I 3) m (I o 2) (-1)) (by rw [hA2 2 (by decide), hA2 3 (by decide)]) ?_
            refine s_if_eq (tgt := 93) (tb_ok aX6_takes_1 22 rfl) (by decide) (fun c86 => ?_) (fun c86 => ?_)
            · refine s_iconst (v := 0) (tb_ok aX6_takes_2 1 rfl) (by decide) ?_
              refine s_zret (tb_ok aX6_takes_2 2 rfl) rfl ?_ ?_
              exact Or.inl rfl
              refine ⟨congrArg (fun z => some (Value.int z)) ?_, rfl, hA2, rfl, rfl⟩
              rw [takI, if_neg c5, if_neg c15]
              first | (rw [bI_f (fun h => h.1 c51)]; done) | (rw [bI_f (fun h => h.2.elim (fun k => k c71) (fun k => k c86))]; done)
            · refine s_iconst (v := 1) (tb_ok aX6_takes_1 23 rfl) (by decide) ?_
              refine s_goto (tgt := 94) (tb_ok aX6_takes_2 0 rfl) (by decide) ?_
              refine s_zret (tb_ok aX6_takes_2 2 rfl) rfl ?_ ?_
              exact Or.inr rfl
              refine ⟨congrArg (fun z => some (Value.int z)) ?_, rfl, hA2, rfl, rfl⟩
              rw [takI, if_neg c5, if_neg c15]
              first | (rw [bI_t ⟨c51, Or.inr c86⟩]; done) | (rw [bI_t ⟨c51, Or.inl c71⟩]; done)
    · refine s_iload_n (tb_ok aX6_takes_0 10 rfl) rfl ?_
      refine s_aload_n (tb_ok aX6_takes_0 11 rfl) rfl ?_
      refine s_getI (x := (I o 1)) (tb_ok aX6_takes_0 12 rfl) f_RX6_43 ho rfl (by first | rfl | (rw [eo2]; done) | (rw [setO_n hw]; done)) ?_
      refine s_icmp_eq (tgt := 30) (tb_ok aX6_takes_0 13 rfl) (by decide) (fun c23 => ?_) (fun c23 => ?_)
      · refine s_iconst (v := 0) (tb_ok aX6_takes_0 16 rfl) (by decide) ?_
        refine s_zret (tb_ok aX6_takes_0 17 rfl) rfl ?_ ?_
        exact Or.inl rfl
        refine ⟨congrArg (fun z => some (Value.int z)) ?_, rfl, AgW.rf, rfl, rfl⟩
        rw [takI, if_neg c5, if_pos c15, bI_f (fun h => h c23)]
      · refine s_iconst (v := 1) (tb_ok aX6_takes_0 14 rfl) (by decide) ?_
        refine s_goto (tgt := 31) (tb_ok aX6_takes_0 15 rfl) (by decide) ?_
        refine s_zret (tb_ok aX6_takes_0 17 rfl) rfl ?_ ?_
        exact Or.inr rfl
        refine ⟨congrArg (fun z => some (Value.int z)) ?_, rfl, AgW.rf, rfl, rfl⟩
        rw [takI, if_neg c5, if_pos c15, bI_t c23]
  · refine s_iconst (v := 1) (tb_ok aX6_takes_0 4 rfl) (by decide) ?_
    refine s_zret (tb_ok aX6_takes_0 5 rfl) rfl ?_ ?_
    exact Or.inr rfl
    refine ⟨congrArg (fun z => some (Value.int z)) ?_, rfl, AgW.rf, rfl, rfl⟩
    rw [takI, if_pos c5]

set_option maxRecDepth 100000 in
set_option maxHeartbeats 4000000 in
theorem E_wouldLearn {X : En} {I : FI} {L : FL} {q : Nat × Nat} {m : Nat} (hm : I 1 3 = nI m) (hm10 : m ≤ 10) {ri : Nat} (hri : ri < 6) (hq : q.1 = ruleN ri) {sem : Nat → (Nat → Int32) → Int32} (hs : okRule I (ruleN ri) sem) {o : Nat} (ho : S0[o]? = some (5, 5)) (fact day : Int32) : Ev X 4 mX6_wouldLearn (0, 0) [.ref 64, .ref o, .int fact, .int day] S0 I L (R0 q) (AgR (some (.int (wlI sem (I 2) (I 3) m (I o) fact day))) I L q) := by
  refine ev_of (by decide +kernel) rfl ?_
  show SW X _ _ _ 0 [some (.ref 64), some (.ref o), some (.int fact), some (.int day)] [] S0 I L (R0 q) _
  refine s_aload_n (tb_ok aX6_wouldLearn_0 0 rfl) rfl ?_
  refine s_iload_n (tb_ok aX6_wouldLearn_0 1 rfl) rfl ?_
  refine s_cVp (as := [.int fact]) (tb_ok aX6_wouldLearn_0 2 rfl) v_RX6_61 (E_isKnown ho _) (by decide) ho rfl rfl rfl rfl (Nat.le_of_ble_eq_true rfl) (by decide) ?_
  refine s_if_ne (tgt := 22) (tb_ok aX6_wouldLearn_0 3 rfl) (by decide) (fun c5 => ?_) (fun c5 => ?_)
  · refine s_iconst (v := 0) (tb_ok aX6_wouldLearn_0 12 rfl) (by decide) ?_
    refine s_zret (tb_ok aX6_wouldLearn_0 13 rfl) rfl ?_ ?_
    exact Or.inl rfl
    first | refine ⟨congrArg (fun z => some (Value.int z)) ?_, rfl, hA1, rfl, rfl⟩ | refine ⟨congrArg (fun z => some (Value.int z)) ?_, rfl, AgW.rf, rfl, rfl⟩
    first | (rw [wlI, bI_f (fun h => c5 h.1)]; done) | (rw [wlI, bI_f (fun h => h.2 c15)]; done)
  · refine s_aload_n (tb_ok aX6_wouldLearn_0 4 rfl) rfl ?_
    refine s_aload_n (tb_ok aX6_wouldLearn_0 5 rfl) rfl ?_
    refine s_iload_n (tb_ok aX6_wouldLearn_0 6 rfl) rfl ?_
    refine s_iload_n (tb_ok aX6_wouldLearn_0 7 rfl) rfl ?_
    refine s_cV (as := [.ref o, .int fact, .int day]) (tb_ok aX6_wouldLearn_0 8 rfl) v_RX6_65 (E_takes hm hm10 hri hq hs ho _ _) (by decide) rfl rfl rfl rfl rfl (Nat.le_of_ble_eq_true rfl) (by decide) (fun r1 S1 I1 L1 R1 q1 => ?_)
    obtain ⟨rfl, rfl, hA1, rfl, rfl⟩ := q1
    refine s_if_eq (tgt := 22) (tb_ok aX6_wouldLearn_0 9 rfl) (by decide) (fun c15 => ?_) (fun c15 => ?_)
    · refine s_iconst (v := 0) (tb_ok aX6_wouldLearn_0 12 rfl) (by decide) ?_
      refine s_zret (tb_ok aX6_wouldLearn_0 13 rfl) rfl ?_ ?_
      exact Or.inl rfl
      first | refine ⟨congrArg (fun z => some (Value.int z)) ?_, rfl, hA1, rfl, rfl⟩ | refine ⟨congrArg (fun z => some (Value.int z)) ?_, rfl, AgW.rf, rfl, rfl⟩
      first | (rw [wlI, bI_f (fun h => c5 h.1)]; done) | (rw [wlI, bI_f (fun h => h.2 c15)]; done)
    · refine s_iconst (v := 1) (tb_ok aX6_wouldLearn_0 10 rfl) (by decide) ?_
      refine s_goto (tgt := 23) (tb_ok aX6_wouldLearn_0 11 rfl) (by decide) ?_
      refine s_zret (tb_ok aX6_wouldLearn_0 13 rfl) rfl ?_ ?_
      exact Or.inr rfl
      first | refine ⟨congrArg (fun z => some (Value.int z)) ?_, rfl, hA1, rfl, rfl⟩ | refine ⟨congrArg (fun z => some (Value.int z)) ?_, rfl, AgW.rf, rfl, rfl⟩
      first | (rw [wlI, bI_t ⟨c5, c15⟩]; done)

/-- a tree that hears a fact -/
def heaP (sem : Nat → (Nat → Int32) → Int32) (fr fa : Nat → Int32) (m : Nat) (f : Nat → Int32) (fact day : Int32) : Nat → Int32 := if wlI sem fr fa m f fact day = 0 then f else upd f 2 (f 2 ||| ((1 : Int32) <<< (fact &&& 31)))
def AgT (o : Nat) (f : Nat → Int32) (I : FI) (L : FL) (q : Nat × Nat) : Pst := fun r' S' I' L' R' => r' = none ∧ S' = S0 ∧ AgW (setO I o f) I' ∧ L' = L ∧ R' = R0 q
set_option maxRecDepth 100000 in
set_option maxHeartbeats 4000000 in
theorem E_hear {X : En} {I : FI} {L : FL} {q : Nat × Nat} {m : Nat} (hm : I 1 3 = nI m) (hm10 : m ≤ 10) {ri : Nat} (hri : ri < 6) (hq : q.1 = ruleN ri) {sem : Nat → (Nat → Int32) → Int32} (hs : okRule I (ruleN ri) sem) {o : Nat} (ho : S0[o]? = some (5, 5)) (fact day : Int32) : Ev X 5 mX6_hear (0, 0) [.ref 64, .ref o, .int fact, .int day] S0 I L (R0 q) (AgT o (heaP sem (I 2) (I 3) m (I o) fact day) I L q) := by
  refine ev_of (by decide +kernel) rfl ?_
  show SW X _ _ _ 0 [some (.ref 64), some (.ref o), some (.int fact), some (.int day)] [] S0 I L (R0 q) _
  refine s_aload_n (tb_ok aX6_hear_0 0 rfl) rfl ?_
  refine s_aload_n (tb_ok aX6_hear_0 1 rfl) rfl ?_
  refine s_iload_n (tb_ok aX6_hear_0 2 rfl) rfl ?_
  refine s_iload_n (tb_ok aX6_hear_0 3 rfl) rfl ?_
  refine s_cV (as := [.ref o, .int fact, .int day]) (tb_ok aX6_hear_0 4 rfl) v_RX6_69 (E_wouldLearn hm hm10 hri hq hs ho _ _) (by decide) rfl rfl rfl rfl rfl (Nat.le_of_ble_eq_true rfl) (by decide) (fun r1 S1 I1 L1 R1 q1 => ?_)
  obtain ⟨rfl, rfl, hA1, rfl, rfl⟩ := q1
  refine s_if_eq (tgt := 22) (tb_ok aX6_hear_0 5 rfl) (by decide) (fun c7 => ?_) (fun c7 => ?_)
  · refine s_vret (tb_ok aX6_hear_0 14 rfl) rfl ?_
    refine ⟨rfl, rfl, ?_, rfl, rfl⟩
    first | (rw [heaP, if_pos c7, setO_self]; exact hA1) | (rw [heaP, if_neg c7, up2_eq, hA1 o (tree_W0 ho)]; exact hA1.setB)
  · refine s_aload_n (tb_ok aX6_hear_0 6 rfl) rfl ?_
    refine s_dup (tb_ok aX6_hear_0 7 rfl) rfl ?_
    refine s_getI (x := (I o 2)) (tb_ok aX6_hear_0 8 rfl) f_RX6_25 ho rfl (by rw [hA1 o (tree_W0 ho)]) ?_
    refine s_iconst (v := 1) (tb_ok aX6_hear_0 9 rfl) (by decide) ?_
    refine s_iload_n (tb_ok aX6_hear_0 10 rfl) rfl ?_
    refine s_ishl (tb_ok aX6_hear_0 11 rfl) ?_
    refine s_ior (tb_ok aX6_hear_0 12 rfl) ?_
    refine s_putI (tb_ok aX6_hear_0 13 rfl) f_RX6_25 ho rfl ?_
    refine s_vret (tb_ok aX6_hear_0 14 rfl) rfl ?_
    refine ⟨rfl, rfl, ?_, rfl, rfl⟩
    first | (rw [heaP, if_pos c7, setO_self]; exact hA1) | (rw [heaP, if_neg c7, up2_eq, hA1 o (tree_W0 ho)]; exact hA1.setB)

set_option maxRecDepth 100000 in
set_option maxHeartbeats 4000000 in
theorem E_fallen {X : En} {I : FI} {L : FL} {q : Nat × Nat} {ri : Nat} (hri : ri < 6) (hq : q.1 = ruleN ri) {sem : Nat → (Nat → Int32) → Int32} (hs : okRule I (ruleN ri) sem) {o : Nat} (ho : S0[o]? = some (5, 5)) (set day : Int32) : Ev X 4 mX6_fallen (0, 0) [.ref 64, .ref o, .int set, .int day] S0 I L (R0 q) (AgR (some (.int (falS sem (I o) set day 12))) I L q) := by
  have loop : ∀ k, k ≤ 12 → ∀ (J : FI), (AgW I J) → SW X 4 mX6_fallen (0, 0) 6 [some (.ref 64), some (.ref o), some (.int set), some (.int day), some (.int (falS sem (I o) set day k)), some (.int (nI k))] [] S0 J L (R0 q) (KQ X (AgR (some (.int (falS sem (I o) set day 12))) I L q)) := by
    refine for_up (P := fun k => ∀ (J : FI), (AgW I J) → SW X 4 mX6_fallen (0, 0) 6 [some (.ref 64), some (.ref o), some (.int set), some (.int day), some (.int (falS sem (I o) set day k)), some (.int (nI k))] [] S0 J L (R0 q) (KQ X (AgR (some (.int (falS sem (I o) set day 12))) I L q))) 12 ?_ ?_
    · intro J hi
      refine s_iload (tb_ok aX6_fallen_0 4 rfl) rfl ?_
      refine s_bipush (v := nI 12) (tb_ok aX6_fallen_0 5 rfl) (by decide) ?_
      refine s_icmp_ge (tgt := 41) (tb_ok aX6_fallen_0 6 rfl) (by decide) (fun c10 => ?_) (fun c10 => ?_)
      · refine s_iload (tb_ok aX6_fallen_0 23 rfl) rfl ?_
        refine s_iret (tb_ok aX6_fallen_1 0 rfl) rfl ?_
        exact ⟨rfl, rfl, hi, rfl, rfl⟩
      · simp (disch := omega) only [nI_ltI, nI_leI, nI_eq] at c10
        omega
    · intro k hk ih J hi
      refine s_iload (tb_ok aX6_fallen_0 4 rfl) rfl ?_
      refine s_bipush (v := nI 12) (tb_ok aX6_fallen_0 5 rfl) (by decide) ?_
      refine s_icmp_ge (tgt := 41) (tb_ok aX6_fallen_0 6 rfl) (by decide) (fun c10 => ?_) (fun c10 => ?_)
      · simp (disch := omega) only [nI_ltI, nI_leI, nI_eq] at c10
        omega
      · refine s_iload_n (tb_ok aX6_fallen_0 7 rfl) rfl ?_
        refine s_iload (tb_ok aX6_fallen_0 8 rfl) rfl ?_
        refine s_ishr (tb_ok aX6_fallen_0 9 rfl) ?_
        refine s_iconst (v := 1) (tb_ok aX6_fallen_0 10 rfl) (by decide) ?_
        refine s_iand (tb_ok aX6_fallen_0 11 rfl) ?_
        refine s_if_eq (tgt := 35) (tb_ok aX6_fallen_0 12 rfl) (by decide) (fun c19 => ?_) (fun c19 => ?_)
        · refine s_iinc (v := nI (k + 1)) (ls' := [some (.ref 64), some (.ref o), some (.int set), some (.int day), some (.int (falS sem (I o) set day k)), some (.int (nI (k + 1)))]) (tb_ok aX6_fallen_0 21 rfl) rfl (nI_1 _) rfl rfl ?_
          refine s_goto (tgt := 6) (tb_ok aX6_fallen_0 22 rfl) (by decide) ?_
          first | (refine s_ls ?_ (ih _ (hi.tr hA1)); rw [falS, if_neg c19, ex1, hi o (tree_W0 ho)]; done) | (refine s_ls ?_ (ih _ hi); rw [falS, if_pos c19]; done)
        · refine s_iload (tb_ok aX6_fallen_0 13 rfl) rfl ?_
          refine s_aload_n (tb_ok aX6_fallen_0 14 rfl) rfl ?_
          refine s_aload_n (tb_ok aX6_fallen_0 15 rfl) rfl ?_
          refine s_iload (tb_ok aX6_fallen_0 16 rfl) rfl ?_
          refine s_iload_n (tb_ok aX6_fallen_0 17 rfl) rfl ?_
          refine s_cV (as := [.ref o, .int (nI k), .int day]) (tb_ok aX6_fallen_0 18 rfl) v_RX6_72 (E_fall hri hq (hs.ag hri hi) ho _ _) (by decide) rfl rfl rfl rfl rfl (Nat.le_of_ble_eq_true rfl) (by decide) (fun r1 S1 I1 L1 R1 q1 => ?_)
          obtain ⟨rfl, rfl, hA1, rfl, rfl⟩ := q1
          refine s_iadd (tb_ok aX6_fallen_0 19 rfl) ?_
          refine s_name (fun x1 ex1 => ?_)
          refine s_istore (ls' := [some (.ref 64), some (.ref o), some (.int set), some (.int day), some (.int x1), some (.int (nI k))]) (tb_ok aX6_fallen_0 20 rfl) rfl rfl ?_
          refine s_iinc (v := nI (k + 1)) (ls' := [some (.ref 64), some (.ref o), some (.int set), some (.int day), some (.int x1), some (.int (nI (k + 1)))]) (tb_ok aX6_fallen_0 21 rfl) rfl (nI_1 _) rfl rfl ?_
          refine s_goto (tgt := 6) (tb_ok aX6_fallen_0 22 rfl) (by decide) ?_
          first | (refine s_ls ?_ (ih _ (hi.tr hA1)); rw [falS, if_neg c19, ex1, hi o (tree_W0 ho)]; done) | (refine s_ls ?_ (ih _ hi); rw [falS, if_pos c19]; done)
  refine ev_of (by decide +kernel) rfl ?_
  show SW X _ _ _ 0 [some (.ref 64), some (.ref o), some (.int set), some (.int day), none, none] [] S0 I L (R0 q) _
  refine s_iconst (v := 0) (tb_ok aX6_fallen_0 0 rfl) (by decide) ?_
  refine s_istore (ls' := [some (.ref 64), some (.ref o), some (.int set), some (.int day), some (.int (0)), none]) (tb_ok aX6_fallen_0 1 rfl) rfl rfl ?_
  refine s_iconst (v := nI 0) (tb_ok aX6_fallen_0 2 rfl) (by decide) ?_
  refine s_istore (ls' := [some (.ref 64), some (.ref o), some (.int set), some (.int day), some (.int (0)), some (.int (nI 0))]) (tb_ok aX6_fallen_0 3 rfl) rfl rfl ?_
  exact loop 0 (Nat.zero_le _) I AgW.rf

set_option maxRecDepth 100000 in
set_option maxHeartbeats 4000000 in
theorem E_pass {X : En} {I : FI} {L : FL} {q : Nat × Nat} {m : Nat} (hm : I 1 3 = nI m) (hm10 : m ≤ 10) {ri : Nat} (hri : ri < 6) (hq : q.1 = ruleN ri) {sem : Nat → (Nat → Int32) → Int32} (hs : okRule I (ruleN ri) sem) {o : Nat} (ho : S0[o]? = some (5, 5)) (day : Int32) : Ev X 5 mX6_pass (0, 0) [.ref 64, .ref o, .int day] S0 I L (R0 q) (AgT o (pasP sem (I 2) (I 3) m (I o) day) I L q) := by
  have hw : o ≠ 65 := fun e => by rw [e] at ho; cases ho
  refine ev_of (by decide +kernel) rfl ?_
  show SW X _ _ _ 0 [some (.ref 64), some (.ref o), some (.int day), none, none, none] [] S0 I L (R0 q) _
  refine s_aload_n (tb_ok aX6_pass_0 0 rfl) rfl ?_
  refine s_aload_n (tb_ok aX6_pass_0 1 rfl) rfl ?_
  refine s_iload_n (tb_ok aX6_pass_0 2 rfl) rfl ?_
  refine s_cVp (as := [.ref o, .int day]) (tb_ok aX6_pass_0 3 rfl) v_RX6_76 (E_understands hm hm10 ho _) (by decide) rfl rfl rfl rfl rfl (Nat.le_of_ble_eq_true rfl) (by decide) ?_
  refine s_name (fun x1 ex1 => ?_)
  refine s_istore_n (ls' := [some (.ref 64), some (.ref o), some (.int day), some (.int x1), none, none]) (tb_ok aX6_pass_0 4 rfl) rfl rfl ?_
  refine s_aload_n (tb_ok aX6_pass_0 5 rfl) rfl ?_
  refine s_aload_n (tb_ok aX6_pass_0 6 rfl) rfl ?_
  refine s_iload_n (tb_ok aX6_pass_0 7 rfl) rfl ?_
  refine s_iload_n (tb_ok aX6_pass_0 8 rfl) rfl ?_
  refine s_cV (as := [.ref o, .int x1, .int day]) (tb_ok aX6_pass_0 9 rfl) v_RX6_80 (E_fallen hri hq hs ho _ _) (by decide) rfl rfl rfl rfl rfl (Nat.le_of_ble_eq_true rfl) (by decide) (fun r1 S1 I1 L1 R1 q1 => ?_)
  obtain ⟨rfl, rfl, hA1, rfl, rfl⟩ := q1
  have eo1 := hA1 _ (tree_W0 ho)
  refine s_name (fun x2 ex2 => ?_)
  refine s_istore (ls' := [some (.ref 64), some (.ref o), some (.int day), some (.int x1), some (.int x2), none]) (tb_ok aX6_pass_0 10 rfl) rfl rfl ?_
  refine s_aload_n (tb_ok aX6_pass_0 11 rfl) rfl ?_
  refine s_dup (tb_ok aX6_pass_0 12 rfl) rfl ?_
  refine s_getI (x := (I o 2)) (tb_ok aX6_pass_0 13 rfl) f_RX6_25 ho rfl (by first | rfl | (rw [eo1]; done)) ?_
  refine s_iload_n (tb_ok aX6_pass_0 14 rfl) rfl ?_
  refine s_ior (tb_ok aX6_pass_0 15 rfl) ?_
  refine s_putI (tb_ok aX6_pass_0 16 rfl) f_RX6_25 ho rfl ?_
  refine s_aload_n (tb_ok aX6_pass_0 17 rfl) rfl ?_
  refine s_iconst (v := 0) (tb_ok aX6_pass_0 18 rfl) (by decide) ?_
  refine s_aload_n (tb_ok aX6_pass_0 19 rfl) rfl ?_
  refine s_getI (x := (I o 3)) (tb_ok aX6_pass_0 20 rfl) f_RX6_83 ho rfl (by simp [up2, eo1]) ?_
  refine s_iload (tb_ok aX6_pass_0 21 rfl) rfl ?_
  refine s_isub (tb_ok aX6_pass_0 22 rfl) ?_
  refine s_mmax (tb_ok aX6_pass_0 23 rfl) v_RX6_86 (by decide) (Nat.le_of_ble_eq_true rfl) ?_
  refine s_putI (tb_ok aX6_pass_1 0 rfl) f_RX6_83 ho rfl ?_
  have eJ : up2 (up2 I1 o 2 (I o 2 ||| x1)) o 3 (if 0 < I o 3 - x2 then I o 3 - x2 else 0) = setO I1 o (pasA sem (I 2) (I 3) m (I o) day) := by
    rw [up2_eq (I := I1), up2_setO, eo1, pasA, ← ex1, ← ex2]
  rw [eJ]
  have eo3 : (setO I1 o (pasA sem (I 2) (I 3) m (I o) day)) o = pasA sem (I 2) (I 3) m (I o) day := setO_o
  have hs3 : okRule (setO I1 o (pasA sem (I 2) (I 3) m (I o) day)) (ruleN ri) sem := (hs.ag hri hA1).set hri ho
  refine s_aload_n (tb_ok aX6_pass_1 1 rfl) rfl ?_
  refine s_aload_n (tb_ok aX6_pass_1 2 rfl) rfl ?_
  refine s_iconst (v := 0) (tb_ok aX6_pass_1 3 rfl) (by decide) ?_
  refine s_iload_n (tb_ok aX6_pass_1 4 rfl) rfl ?_
  refine s_cV (as := [.ref o, .int (0), .int day]) (tb_ok aX6_pass_1 5 rfl) v_RX6_46 (E_describe ho _ _) (by decide) rfl rfl rfl rfl rfl (Nat.le_of_ble_eq_true rfl) (by decide) (fun r2 S2 I2 L2 R2 q2 => ?_)
  obtain ⟨rfl, rfl, ⟨g2, hg2, rfl⟩, rfl, rfl⟩ := q2
  rw [eo3] at hg2
  refine s_aload_n (tb_ok aX6_pass_1 6 rfl) rfl ?_
  refine s_getR (r := (ruleN ri)) (tb_ok aX6_pass_1 7 rfl) f_RX6_21 rfl rfl (congrArg some hq) ?_
  refine s_iconst (v := nI 1) (tb_ok aX6_pass_1 8 rfl) (by decide) ?_
  refine s_aload_n (tb_ok aX6_pass_1 9 rfl) rfl ?_
  refine s_getR (r := 65) (tb_ok aX6_pass_1 10 rfl) f_RX6_11 rfl rfl rfl ?_
  refine s_cV (as := [.int (nI 1), .ref 65]) (tb_ok aX6_pass_1 11 rfl) v_RX6_50 (E_say hri hs3 (by decide) hg2) (by decide) (rule0 q hri).1 rfl rfl rfl rfl (Nat.le_of_ble_eq_true rfl) (by decide) (fun r3 S3 I3 L3 R3 q3 => ?_)
  obtain ⟨rfl, rfl, hA3, rfl, rfl⟩ := q3
  have eo5 : I3 o 4 = I o 4 := by rw [hA3 o (tree_W0 ho), eo3]; rfl
  refine s_bipush (v := -9) (tb_ok aX6_pass_1 12 rfl) (by decide) ?_
  refine s_bipush (v := 9) (tb_ok aX6_pass_1 13 rfl) (by decide) ?_
  refine s_cSNp (as := [_, .int (-9), .int (9)]) (tb_ok aX6_pass_1 14 rfl) v_RX6_54 (E_held _ _ _) (by decide) rfl rfl (Nat.le_of_ble_eq_true rfl) ?_
  refine s_name (fun x3 ex3 => ?_)
  refine s_istore (ls' := [some (.ref 64), some (.ref o), some (.int day), some (.int x1), some (.int x2), some (.int x3)]) (tb_ok aX6_pass_1 15 rfl) rfl rfl ?_
  refine s_aload_n (tb_ok aX6_pass_1 16 rfl) rfl ?_
  refine s_aload_n (tb_ok aX6_pass_1 17 rfl) rfl ?_
  refine s_getI (x := (I o 4)) (tb_ok aX6_pass_1 18 rfl) f_RX6_58 ho rfl (by rw [eo5]) ?_
  refine s_iload (tb_ok aX6_pass_1 19 rfl) rfl ?_
  refine s_iadd (tb_ok aX6_pass_1 20 rfl) ?_
  refine s_iconst (v := 0) (tb_ok aX6_pass_1 21 rfl) (by decide) ?_
  refine s_bipush (v := 99) (tb_ok aX6_pass_1 22 rfl) (by decide) ?_
  refine s_cSNp (as := [_, .int (0), .int (99)]) (tb_ok aX6_pass_1 23 rfl) v_RX6_54 (E_held _ _ _) (by decide) rfl rfl (Nat.le_of_ble_eq_true rfl) ?_
  refine s_putI (tb_ok aX6_pass_2 0 rfl) f_RX6_58 ho rfl ?_
  refine s_vret (tb_ok aX6_pass_2 1 rfl) rfl ?_
  refine ⟨rfl, rfl, ?_, rfl, rfl⟩
  rw [up2_eq, hA3 o (tree_W0 ho), eo3]
  have e9 : pasP sem (I 2) (I 3) m (I o) day = upd (pasA sem (I 2) (I 3) m (I o) day) 4 (held (I o 4 + x3) 0 99) := by rw [pasP, ← ex3]
  rw [e9]
  exact fun a ha => by
    by_cases e : a = o
    · subst e; rw [setO_o, setO_o]
    · rw [setO_n e, setO_n e, hA3 a ha, setO_n e, hA1 a ha]
