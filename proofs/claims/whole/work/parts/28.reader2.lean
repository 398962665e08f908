/-! the Reader: one token on -/
def wrL (t : Nat → Int32) (p e : Nat) : List Int32 → Nat → Option Nat → Int32
  | [], _, _ => -1
  | x :: l, w, a => if x = 32 then (if a = some (e - p) then nI w else wrL t p e l (w + 1) (some 0))
    else match a with
      | none => wrL t p e l w none
      | some j => if p + j < e ∧ t (p + j) = x then wrL t p e l w (some (j + 1)) else wrL t p e l w none
theorem wrR_L {t : Nat → Int32} {p e : Nat} : ∀ (f i w : Nat) (a : Option Nat), wrR t p e f i w a = wrL t p e ((List.range f).map (fun k => txb 0 (i + k))) w a := by
  intro f
  induction f with
  | zero => intro i w a; rfl
  | succ f ih =>
    intro i w a
    have hl : (List.range (f + 1)).map (fun k => txb 0 (i + k)) = txb 0 i :: (List.range f).map (fun k => txb 0 (i + 1 + k)) := by
      rw [List.range_succ_eq_map, List.map_cons, List.map_map]
      congr 1
      apply List.map_congr_left
      intro k _
      show txb 0 (i + (k + 1)) = _
      congr 1
      omega
    rw [hl]
    cases a with
    | none => unfold wrR wrL; simp only [ih]
    | some j => unfold wrR wrL; simp only [ih]
theorem slc_len {t : Nat → Int32} {p l : Nat} : (slc t p l).length = l := by simp [slc]
theorem slc_get {t : Nat → Int32} {p l j : Nat} : (slc t p l)[j]? = if j < l then some (t (p + j)) else none := by
  unfold slc
  by_cases h : j < l
  · rw [if_pos h, List.getElem?_map, List.getElem?_range h]; rfl
  · rw [if_neg h]; apply List.getElem?_eq_none; simp; omega
theorem wrL_w {t : Nat → Int32} {p e : Nat} (hpe : p < e) (rest : List Int32) (w : Nat) : ∀ (xs pre : List Int32), (∀ x ∈ xs, x ≠ 32) → wrL t p e (xs ++ 32 :: rest) w (if (slc t p (e - p)).take pre.length = pre then some pre.length else none) = if slc t p (e - p) = pre ++ xs then nI w else wrL t p e rest (w + 1) (some 0) := by
  intro xs
  induction xs with
  | nil =>
    intro pre _
    show wrL t p e (32 :: rest) w _ = _
    conv => lhs; unfold wrL
    rw [if_pos rfl, List.append_nil]
    by_cases c : (slc t p (e - p)).take pre.length = pre
    · rw [if_pos c]
      by_cases d : pre.length = e - p
      · rw [if_pos (by rw [d])]
        rw [d, List.take_of_length_le (by rw [slc_len]; exact Nat.le_refl _)] at c
        rw [if_pos c]
      · rw [if_neg (fun h => d (Option.some.inj h)), if_neg (fun h => d (by rw [← h, slc_len]))]
    · rw [if_neg c, if_neg (fun h => by cases h), if_neg (fun h => c (by rw [h]; exact List.take_length))]
  | cons x xs ih =>
    intro pre hx
    have h32 : x ≠ 32 := hx x List.mem_cons_self
    have ih := ih (pre ++ [x]) (fun y hy => hx y (List.mem_cons_of_mem _ hy))
    rw [List.append_assoc] at ih
    have ih : _ = if slc t p (e - p) = pre ++ x :: xs then nI w else wrL t p e rest (w + 1) (some 0) := ih
    rw [← ih, List.length_append]
    show wrL t p e (x :: (xs ++ 32 :: rest)) w _ = wrL t p e (xs ++ 32 :: rest) w (if (slc t p (e - p)).take (pre.length + 1) = pre ++ [x] then some (pre.length + 1) else none)
    conv => lhs; unfold wrL
    rw [if_neg h32]
    by_cases c : (slc t p (e - p)).take pre.length = pre
    · rw [if_pos c]
      have e1 : (slc t p (e - p)).take (pre.length + 1) = pre ++ (slc t p (e - p))[pre.length]?.toList := by rw [List.take_add_one, c]
      rw [e1, slc_get]
      by_cases d : pre.length < e - p
      · rw [if_pos d]
        by_cases f : t (p + pre.length) = x
        · show (if _ then _ else _) = _
          rw [if_pos ⟨by omega, f⟩, f]
          rw [if_pos (show pre ++ (some x).toList = pre ++ [x] from rfl)]
        · show (if _ then _ else _) = _
          rw [if_neg (fun h => f h.2), if_neg (fun h => f (by simpa using h))]
      · show (if _ then _ else _) = _
        rw [if_neg d, if_neg (fun h => d (by omega)), if_neg (fun h => by simp at h)]
    · rw [if_neg c]
      have e2 : ¬ (slc t p (e - p)).take (pre.length + 1) = pre ++ [x] := fun h => c (by
        have h2 := congrArg (List.take pre.length) h
        rw [List.take_take, Nat.min_eq_left (by omega)] at h2
        rw [h2]
        simp)
      rw [if_neg e2]
theorem wrL_ws {t : Nat → Int32} {p e : Nat} (hpe : p < e) : ∀ (ws : List (List Int32)) (k : Nat), (∀ w ∈ ws, ∀ x ∈ w, x ≠ 32) → wrL t p e ((ws.map (fun w => w ++ [32])).flatten) k (some 0) = wrdI (slc t p (e - p)) ws k := by
  intro ws
  induction ws with
  | nil => intro k _; rfl
  | cons w ws ih =>
    intro k h
    have h1 := wrL_w (t := t) hpe ((ws.map (fun w => w ++ [32])).flatten) k w [] (h w List.mem_cons_self)
    rw [List.map_cons, List.flatten_cons, List.append_assoc]
    rw [show (if (slc t p (e - p)).take ([] : List Int32).length = [] then some ([] : List Int32).length else none) = some 0 from if_pos rfl] at h1
    rw [show w ++ ([32] ++ (ws.map (fun w => w ++ [32])).flatten) = w ++ 32 :: (ws.map (fun w => w ++ [32])).flatten from rfl, h1, wrdI, ih (k + 1) (fun w hw => h w (List.mem_cons_of_mem _ hw))]
    rfl
theorem wr_eq {t : Nat → Int32} {p e : Nat} (hpe : p < e) : wrR t p e 64 0 0 (some 0) = wrdI (slc t p (e - p)) wordsL 0 := by
  rw [wrR_L, ← wrL_ws hpe wordsL 0 (by decide)]
  have : (List.range 64).map (fun k => txb 0 (0 + k)) = (wordsL.map (fun w => w ++ [32])).flatten := by decide +kernel
  rw [this]
/-- the reader's fields for a token -/
def rdS (f : Nat → Int32) (s : St) : Nat → Int32 := fun j => if j = 3 then nI s.at_ else if j = 4 then nI s.pl else if j = 5 then s.tok else if j = 6 then s.val else f j
theorem rd_eq {f g : Nat → Int32} {s : St} (h3 : g 3 = nI s.at_) (h4 : g 4 = nI s.pl) (h5 : g 5 = s.tok) (h6 : g 6 = s.val) (h : ∀ j, j ≠ 3 → j ≠ 4 → j ≠ 5 → j ≠ 6 → g j = f j) : g = rdS f s := by
  funext j
  unfold rdS
  by_cases e3 : j = 3
  · subst e3; rw [if_pos rfl]; exact h3
  rw [if_neg e3]
  by_cases e4 : j = 4
  · subst e4; rw [if_pos rfl]; exact h4
  rw [if_neg e4]
  by_cases e5 : j = 5
  · subst e5; rw [if_pos rfl]; exact h5
  rw [if_neg e5]
  by_cases e6 : j = 6
  · subst e6; rw [if_pos rfl]; exact h6
  rw [if_neg e6]
  exact h j e3 e4 e5 e6
theorem rdS_c {f g : Nat → Int32} {s : St} (h : ∀ j, j ≠ 3 → j ≠ 4 → j ≠ 5 → j ≠ 6 → g j = f j) : rdS g s = rdS f s := rd_eq rfl rfl rfl rfl (fun j h3 h4 h5 h6 => by unfold rdS; rw [if_neg h3, if_neg h4, if_neg h5, if_neg h6]; exact h j h3 h4 h5 h6)
theorem up2_2 {I : FI} {o k : Nat} {x z : Int32} : up2 (up2 I o k x) o k z = up2 I o k z := by
  funext a j
  unfold up2
  by_cases h : a = o
  · by_cases h2 : j = k <;> simp [h, h2]
  · simp [h]
theorem up2_self {I : FI} {o k : Nat} {x : Int32} (h : I o k = x) : up2 I o k x = I := by
  funext a j
  unfold up2
  by_cases h1 : a = o
  · by_cases h2 : j = k
    · subst h1; subst h2; simp [h]
    · simp [h1, h2]
  · simp [h1]
theorem up2_4 {I : FI} {o : Nat} {a b c d : Int32} : up2 (up2 (up2 (up2 I o 6 a) o 3 b) o 6 c) o 3 d = up2 (up2 I o 6 c) o 3 d := by
  funext x j
  unfold up2
  by_cases h : x = o
  · by_cases h2 : j = 3
    · simp [h, h2]
    · by_cases h3 : j = 6 <;> simp [h, h2, h3]
  · simp [h]
theorem wdS_j (v w : Int32) (p e : Nat) : (wdS v w p e).pl = p ∧ (wdS v w p e).at_ = e := by
  unfold wdS
  by_cases h : w < 6
  · rw [if_pos h]; exact ⟨rfl, rfl⟩
  · rw [if_neg h]; exact ⟨rfl, rfl⟩
set_option maxRecDepth 100000 in
set_option maxHeartbeats 4000000 in
theorem E_readWord {X : En} {S : Sh} {I : FI} {L : FL} {R : FR} {r : Nat} (hR : isRead S R r) {n p : Nat} (hn : I 62 1 = nI n) (hn2 : n ≤ 160) (h3 : I 62 3 = nI p) (h4 : I 62 4 = nI p) (hp : p < n) (hl : ltP (I 63 p)) : Ev X 5 mX2_readWord (0, 0) [.ref 62] S I L R (PureR none S (setO I 62 (rdS (I 62) (wdS (I 62 6) (wrdI (slc (I 63) p ((scan ltP (I 63) n p) - p)) wordsL 0) p (scan ltP (I 63) n p)))) L R) := by
  obtain ⟨g1, g2, g3, g4, g5, g6⟩ := id hR
  have he : p < (scan ltP (I 63) n p) := scan_gt hp hl
  have tail : SW X 5 mX2_readWord (0, 0) 49 [some (.ref 62), none] [] S (up2 I 62 3 (nI (scan ltP (I 63) n p))) L R (KQ X (PureR none S (setO I 62 (rdS (I 62) (wdS (I 62 6) (wrdI (slc (I 63) p ((scan ltP (I 63) n p) - p)) wordsL 0) p (scan ltP (I 63) n p)))) L R)) := by
    refine s_aload_n (tb_ok aX2_readWord_0 23 rfl) rfl ?_
    refine s_cVp (as := []) (tb_ok aX2_readWord_1 0 rfl) v_RX2_103 (E_wordRead hR (p := p) (e := (scan ltP (I 63) n p)) (by simp [up2]; exact h4) (by simp [up2]) he (Nat.le_trans (scan_le (by omega)) hn2)) (by decide) g1 rfl rfl rfl rfl (Nat.le_of_ble_eq_true rfl) (by decide) ?_
    refine s_topi (z := wrdI (slc (I 63) p ((scan ltP (I 63) n p) - p)) wordsL 0) (wr_eq he) ?_
    refine s_name (fun x1 ex1 => ?_)
    refine s_istore_n (ls' := [some (.ref 62), some (.int x1)]) (tb_ok aX2_readWord_1 1 rfl) rfl rfl ?_
    refine s_iload_n (tb_ok aX2_readWord_1 2 rfl) rfl ?_
    refine s_bipush (v := 6) (tb_ok aX2_readWord_1 3 rfl) (by decide) ?_
    refine s_icmp_ge (tgt := 86) (tb_ok aX2_readWord_1 4 rfl) (by decide) (fun c57 => ?_) (fun c57 => ?_)
    · refine s_aload_n (tb_ok aX2_readWord_1 19 rfl) rfl ?_
      refine s_iconst (v := 4) (tb_ok aX2_readWord_1 20 rfl) (by decide) ?_
      refine s_iload_n (tb_ok aX2_readWord_1 21 rfl) rfl ?_
      refine s_iadd (tb_ok aX2_readWord_1 22 rfl) ?_
      refine s_bipush (v := 6) (tb_ok aX2_readWord_1 23 rfl) (by decide) ?_
      refine s_isub (tb_ok aX2_readWord_2 0 rfl) ?_
      refine s_putI (tb_ok aX2_readWord_2 1 rfl) f_RX2_47 g1 rfl ?_
      refine s_vret (tb_ok aX2_readWord_2 2 rfl) rfl ?_
      refine ⟨rfl, rfl, ?_, rfl, rfl⟩
      simp only [up2_eq, setO_2, setO_o]
      refine congrArg (setO I 62) (rd_eq ?_ ?_ ?_ ?_ ?_)
      · rw [(wdS_j _ _ _ _).2]; rfl
      · rw [(wdS_j _ _ _ _).1]; exact h4
      · rw [wdS, ← ex1]; first | (rw [if_neg (Int32.not_lt.mpr c57)]; rfl) | (rw [if_pos (Int32.not_le.mp c57)]; first | (rw [if_pos c63]; rfl) | (rw [if_neg c63]; rfl))
      · rw [wdS, ← ex1]; first | (rw [if_neg (Int32.not_lt.mpr c57)]; rfl) | (rw [if_pos (Int32.not_le.mp c57)]; rfl)
      · intro j e3 e4 e5 e6; simp [upd, e3, e4, e5, e6]
    · refine s_aload_n (tb_ok aX2_readWord_1 5 rfl) rfl ?_
      refine s_iload_n (tb_ok aX2_readWord_1 6 rfl) rfl ?_
      refine s_iconst (v := -1) (tb_ok aX2_readWord_1 7 rfl) (by decide) ?_
      refine s_icmp_ne (tgt := 70) (tb_ok aX2_readWord_1 8 rfl) (by decide) (fun c63 => ?_) (fun c63 => ?_)
      · refine s_iconst (v := 3) (tb_ok aX2_readWord_1 11 rfl) (by decide) ?_
        refine s_putI (tb_ok aX2_readWord_1 12 rfl) f_RX2_47 g1 rfl ?_
        refine s_aload_n (tb_ok aX2_readWord_1 13 rfl) rfl ?_
        refine s_sipush (v := 10000) (tb_ok aX2_readWord_1 14 rfl) (by decide) ?_
        refine s_iload_n (tb_ok aX2_readWord_1 15 rfl) rfl ?_
        refine s_iadd (tb_ok aX2_readWord_1 16 rfl) ?_
        refine s_putI (tb_ok aX2_readWord_1 17 rfl) f_RX2_81 g1 rfl ?_
        refine s_goto (tgt := 96) (tb_ok aX2_readWord_1 18 rfl) (by decide) ?_
        refine s_vret (tb_ok aX2_readWord_2 2 rfl) rfl ?_
        refine ⟨rfl, rfl, ?_, rfl, rfl⟩
        simp only [up2_eq, setO_2, setO_o]
        refine congrArg (setO I 62) (rd_eq ?_ ?_ ?_ ?_ ?_)
        · rw [(wdS_j _ _ _ _).2]; rfl
        · rw [(wdS_j _ _ _ _).1]; exact h4
        · rw [wdS, ← ex1]; first | (rw [if_neg (Int32.not_lt.mpr c57)]; rfl) | (rw [if_pos (Int32.not_le.mp c57)]; first | (rw [if_pos c63]; rfl) | (rw [if_neg c63]; rfl))
        · rw [wdS, ← ex1]; first | (rw [if_neg (Int32.not_lt.mpr c57)]; rfl) | (rw [if_pos (Int32.not_le.mp c57)]; rfl)
        · intro j e3 e4 e5 e6; simp [upd, e3, e4, e5, e6]
      · refine s_iconst (v := 1) (tb_ok aX2_readWord_1 9 rfl) (by decide) ?_
        refine s_goto (tgt := 71) (tb_ok aX2_readWord_1 10 rfl) (by decide) ?_
        refine s_putI (tb_ok aX2_readWord_1 12 rfl) f_RX2_47 g1 rfl ?_
        refine s_aload_n (tb_ok aX2_readWord_1 13 rfl) rfl ?_
        refine s_sipush (v := 10000) (tb_ok aX2_readWord_1 14 rfl) (by decide) ?_
        refine s_iload_n (tb_ok aX2_readWord_1 15 rfl) rfl ?_
        refine s_iadd (tb_ok aX2_readWord_1 16 rfl) ?_
        refine s_putI (tb_ok aX2_readWord_1 17 rfl) f_RX2_81 g1 rfl ?_
        refine s_goto (tgt := 96) (tb_ok aX2_readWord_1 18 rfl) (by decide) ?_
        refine s_vret (tb_ok aX2_readWord_2 2 rfl) rfl ?_
        refine ⟨rfl, rfl, ?_, rfl, rfl⟩
        simp only [up2_eq, setO_2, setO_o]
        refine congrArg (setO I 62) (rd_eq ?_ ?_ ?_ ?_ ?_)
        · rw [(wdS_j _ _ _ _).2]; rfl
        · rw [(wdS_j _ _ _ _).1]; exact h4
        · rw [wdS, ← ex1]; first | (rw [if_neg (Int32.not_lt.mpr c57)]; rfl) | (rw [if_pos (Int32.not_le.mp c57)]; first | (rw [if_pos c63]; rfl) | (rw [if_neg c63]; rfl))
        · rw [wdS, ← ex1]; first | (rw [if_neg (Int32.not_lt.mpr c57)]; rfl) | (rw [if_pos (Int32.not_le.mp c57)]; rfl)
        · intro j e3 e4 e5 e6; simp [upd, e3, e4, e5, e6]
  have loop : ∀ k, k ≤ n → (p ≤ k) → (scan ltP (I 63) n k = (scan ltP (I 63) n p)) → SW X 5 mX2_readWord (0, 0) 0 [some (.ref 62), none] [] S (up2 I 62 3 (nI k)) L R (KQ X (PureR none S (setO I 62 (rdS (I 62) (wdS (I 62 6) (wrdI (slc (I 63) p ((scan ltP (I 63) n p) - p)) wordsL 0) p (scan ltP (I 63) n p)))) L R)) := by
    refine for_up (P := fun k => (p ≤ k) → (scan ltP (I 63) n k = (scan ltP (I 63) n p)) → SW X 5 mX2_readWord (0, 0) 0 [some (.ref 62), none] [] S (up2 I 62 3 (nI k)) L R (KQ X (PureR none S (setO I 62 (rdS (I 62) (wdS (I 62 6) (wrdI (slc (I 63) p ((scan ltP (I 63) n p) - p)) wordsL 0) p (scan ltP (I 63) n p)))) L R))) n ?_ ?_
    · intro hi hi0
      refine s_aload_n (tb_ok aX2_readWord_0 0 rfl) rfl ?_
      refine s_getI (x := (nI n)) (tb_ok aX2_readWord_0 1 rfl) f_RX2_31 g1 rfl (by simp [up2]) ?_
      refine s_aload_n (tb_ok aX2_readWord_0 2 rfl) rfl ?_
      refine s_getI (x := (nI n)) (tb_ok aX2_readWord_0 3 rfl) f_RX2_15 g1 rfl (by simp [up2]; exact hn) ?_
      refine s_icmp_ge (tgt := 49) (tb_ok aX2_readWord_0 4 rfl) (by decide) (fun c8 => ?_) (fun c8 => ?_)
      · have e1 : n = (scan ltP (I 63) n p) := by rw [← hi0]; exact (scan_e (by omega)).symm
        refine s_eqI ?_ tail
        rw [← e1]
      · simp (disch := omega) only [nI_ltI, nI_leI, nI_eq] at c8
        omega
    · intro k hk ih hi hi0
      refine s_aload_n (tb_ok aX2_readWord_0 0 rfl) rfl ?_
      refine s_getI (x := (nI k)) (tb_ok aX2_readWord_0 1 rfl) f_RX2_31 g1 rfl (by simp [up2]) ?_
      refine s_aload_n (tb_ok aX2_readWord_0 2 rfl) rfl ?_
      refine s_getI (x := (nI n)) (tb_ok aX2_readWord_0 3 rfl) f_RX2_15 g1 rfl (by simp [up2]; exact hn) ?_
      refine s_icmp_ge (tgt := 49) (tb_ok aX2_readWord_0 4 rfl) (by decide) (fun c8 => ?_) (fun c8 => ?_)
      · simp (disch := omega) only [nI_ltI, nI_leI, nI_eq] at c8
        omega
      · refine s_aload_n (tb_ok aX2_readWord_0 5 rfl) rfl ?_
        refine s_getI (x := (nI k)) (tb_ok aX2_readWord_0 6 rfl) f_RX2_31 g1 rfl (by simp [up2]) ?_
        refine s_sipush (v := nI 160) (tb_ok aX2_readWord_0 7 rfl) (by decide) ?_
        refine s_icmp_ge (tgt := 49) (tb_ok aX2_readWord_0 8 rfl) (by decide) (fun c18 => ?_) (fun c18 => ?_)
        · simp (disch := omega) only [nI_ltI, nI_leI, nI_eq] at c18
          omega
        · refine s_aload_n (tb_ok aX2_readWord_0 9 rfl) rfl ?_
          refine s_getR (r := 63) (tb_ok aX2_readWord_0 10 rfl) f_RX2_11 g1 rfl g2 ?_
          refine s_aload_n (tb_ok aX2_readWord_0 11 rfl) rfl ?_
          refine s_getI (x := (nI k)) (tb_ok aX2_readWord_0 12 rfl) f_RX2_31 g1 rfl (by simp [up2]) ?_
          refine s_ialdN (tb_ok aX2_readWord_0 13 rfl) g3 (by omega) (by decide) ?_
          refine s_cSp (as := [_]) (tb_ok aX2_readWord_0 14 rfl) v_RX2_88 (E_isLetter _) (by decide) rfl rfl (Nat.le_of_ble_eq_true rfl) ?_
          refine s_if_eq (tgt := 49) (tb_ok aX2_readWord_0 15 rfl) (by decide) (fun c33 => ?_) (fun c33 => ?_)
          · have hnl : ¬ ltP (I 63 k) := bI_0.mp c33
            have e1 : k = (scan ltP (I 63) n p) := by rw [← hi0]; exact (scan_e (fun h => hnl h.2)).symm
            refine s_eqI ?_ tail
            rw [← e1]
          · refine s_aload_n (tb_ok aX2_readWord_0 16 rfl) rfl ?_
            refine s_dup (tb_ok aX2_readWord_0 17 rfl) rfl ?_
            refine s_getI (x := (nI k)) (tb_ok aX2_readWord_0 18 rfl) f_RX2_31 g1 rfl (by simp [up2]) ?_
            refine s_iconst (v := 1) (tb_ok aX2_readWord_0 19 rfl) (by decide) ?_
            refine s_iadd (tb_ok aX2_readWord_0 20 rfl) ?_
            refine s_putI (tb_ok aX2_readWord_0 21 rfl) f_RX2_31 g1 rfl ?_
            refine s_goto (tgt := 0) (tb_ok aX2_readWord_0 22 rfl) (by decide) ?_
            have hl2 : ltP (I 63 k) := bI_1.mp (by rcases bI_01 (ltP (I 63 k)) with h | h; exact absurd h c33; exact h)
            rw [nI_1, up2_2]
            exact ih (by omega) (by rw [← hi0]; exact (scan_s hk hl2).symm)
  refine ev_of (by decide +kernel) rfl ?_
  show SW X _ _ _ 0 [some (.ref 62), none] [] S I L R _
  refine s_eqI (up2_self h3).symm (loop p (by omega) (Nat.le_refl _) rfl)

set_option maxRecDepth 100000 in
set_option maxHeartbeats 4000000 in
theorem E_readNumber {X : En} {S : Sh} {I : FI} {L : FL} {R : FR} {r : Nat} (hR : isRead S R r) {n p : Nat} (hn : I 62 1 = nI n) (hn2 : n ≤ 160) (h3 : I 62 3 = nI p) (h4 : I 62 4 = nI p) (hp : p < n) (hl : dgP (I 63 p)) : Ev X 1 mX2_readNumber (0, 0) [.ref 62] S I L R (PureR none S (setO I 62 (rdS (I 62) ((if (scan dgP (I 63) n p) - p ≤ 4 then 2 else 1, nuV (I 63) p ((scan dgP (I 63) n p) - p), p, (scan dgP (I 63) n p)) : St))) L R) := by
  obtain ⟨g1, g2, g3, g4, g5, g6⟩ := id hR
  have he : p < (scan dgP (I 63) n p) := scan_gt hp hl
  have he2 : (scan dgP (I 63) n p) ≤ n := scan_le (by omega)
  have tail : SW X 1 mX2_readNumber (0, 0) 78 [some (.ref 62)] [] S (up2 (up2 I 62 6 (nuV (I 63) p ((scan dgP (I 63) n p) - p))) 62 3 (nI (p + ((scan dgP (I 63) n p) - p)))) L R (KQ X (PureR none S (setO I 62 (rdS (I 62) ((if (scan dgP (I 63) n p) - p ≤ 4 then 2 else 1, nuV (I 63) p ((scan dgP (I 63) n p) - p), p, (scan dgP (I 63) n p)) : St))) L R)) := by
    refine s_aload_n (tb_ok aX2_readNumber_1 16 rfl) rfl ?_
    refine s_aload_n (tb_ok aX2_readNumber_1 17 rfl) rfl ?_
    refine s_getI (x := (nI (p + ((scan dgP (I 63) n p) - p)))) (tb_ok aX2_readNumber_1 18 rfl) f_RX2_31 g1 rfl (by simp [up2]) ?_
    refine s_aload_n (tb_ok aX2_readNumber_1 19 rfl) rfl ?_
    refine s_getI (x := (nI p)) (tb_ok aX2_readNumber_1 20 rfl) f_RX2_53 g1 rfl (by simp [up2]; exact h4) ?_
    refine s_isub (tb_ok aX2_readNumber_1 21 rfl) ?_
    refine s_topi (z := (nI ((scan dgP (I 63) n p) - p))) (by rw [show p + ((scan dgP (I 63) n p) - p) = (scan dgP (I 63) n p) by omega]; exact nI_sub' (by omega)) ?_
    refine s_iconst (v := nI 4) (tb_ok aX2_readNumber_1 22 rfl) (by decide) ?_
    refine s_icmp_gt (tgt := 96) (tb_ok aX2_readNumber_1 23 rfl) (by decide) (fun c89 => ?_) (fun c89 => ?_)
    · refine s_iconst (v := 1) (tb_ok aX2_readNumber_2 2 rfl) (by decide) ?_
      refine s_putI (tb_ok aX2_readNumber_2 3 rfl) f_RX2_47 g1 rfl ?_
      refine s_vret (tb_ok aX2_readNumber_2 4 rfl) rfl ?_
      refine ⟨rfl, rfl, ?_, rfl, rfl⟩
      simp only [up2_eq, setO_2, setO_o]
      refine congrArg (setO I 62) (rd_eq ?_ ?_ ?_ ?_ ?_)
      · show nI (p + ((scan dgP (I 63) n p) - p)) = nI (scan dgP (I 63) n p)
        rw [show p + ((scan dgP (I 63) n p) - p) = (scan dgP (I 63) n p) by omega]
      · exact h4
      · simp (disch := omega) only [nI_ltI] at c89
        first | exact (if_neg (by omega)).symm | exact (if_pos (by omega)).symm
      · rfl
      · intro j e3 e4 e5 e6; simp [upd, e3, e4, e5, e6]
    · refine s_iconst (v := 2) (tb_ok aX2_readNumber_2 0 rfl) (by decide) ?_
      refine s_goto (tgt := 97) (tb_ok aX2_readNumber_2 1 rfl) (by decide) ?_
      refine s_putI (tb_ok aX2_readNumber_2 3 rfl) f_RX2_47 g1 rfl ?_
      refine s_vret (tb_ok aX2_readNumber_2 4 rfl) rfl ?_
      refine ⟨rfl, rfl, ?_, rfl, rfl⟩
      simp only [up2_eq, setO_2, setO_o]
      refine congrArg (setO I 62) (rd_eq ?_ ?_ ?_ ?_ ?_)
      · show nI (p + ((scan dgP (I 63) n p) - p)) = nI (scan dgP (I 63) n p)
        rw [show p + ((scan dgP (I 63) n p) - p) = (scan dgP (I 63) n p) by omega]
      · exact h4
      · simp (disch := omega) only [nI_ltI] at c89
        first | exact (if_neg (by omega)).symm | exact (if_pos (by omega)).symm
      · rfl
      · intro j e3 e4 e5 e6; simp [upd, e3, e4, e5, e6]
  have loop : ∀ k, k ≤ (n - p) → (scan dgP (I 63) n (p + k) = (scan dgP (I 63) n p)) → SW X 1 mX2_readNumber (0, 0) 5 [some (.ref 62)] [] S (up2 (up2 I 62 6 (nuV (I 63) p k)) 62 3 (nI (p + k))) L R (KQ X (PureR none S (setO I 62 (rdS (I 62) ((if (scan dgP (I 63) n p) - p ≤ 4 then 2 else 1, nuV (I 63) p ((scan dgP (I 63) n p) - p), p, (scan dgP (I 63) n p)) : St))) L R)) := by
    refine for_up (P := fun k => (scan dgP (I 63) n (p + k) = (scan dgP (I 63) n p)) → SW X 1 mX2_readNumber (0, 0) 5 [some (.ref 62)] [] S (up2 (up2 I 62 6 (nuV (I 63) p k)) 62 3 (nI (p + k))) L R (KQ X (PureR none S (setO I 62 (rdS (I 62) ((if (scan dgP (I 63) n p) - p ≤ 4 then 2 else 1, nuV (I 63) p ((scan dgP (I 63) n p) - p), p, (scan dgP (I 63) n p)) : St))) L R))) (n - p) ?_ ?_
    · intro hi0
      refine s_aload_n (tb_ok aX2_readNumber_0 3 rfl) rfl ?_
      refine s_getI (x := (nI (p + (n - p)))) (tb_ok aX2_readNumber_0 4 rfl) f_RX2_31 g1 rfl (by simp [up2]) ?_
      refine s_aload_n (tb_ok aX2_readNumber_0 5 rfl) rfl ?_
      refine s_getI (x := (nI n)) (tb_ok aX2_readNumber_0 6 rfl) f_RX2_15 g1 rfl (by simp [up2]; exact hn) ?_
      refine s_icmp_ge (tgt := 78) (tb_ok aX2_readNumber_0 7 rfl) (by decide) (fun c13 => ?_) (fun c13 => ?_)
      · have e1 : p + (n - p) = (scan dgP (I 63) n p) := by rw [← hi0]; exact (scan_e (by omega)).symm
        refine s_eqI ?_ tail
        rw [← show n - p = ((scan dgP (I 63) n p) - p) by omega]
      · simp (disch := omega) only [nI_leI] at c13
        omega
    · intro k hk ih hi0
      refine s_aload_n (tb_ok aX2_readNumber_0 3 rfl) rfl ?_
      refine s_getI (x := (nI (p + k))) (tb_ok aX2_readNumber_0 4 rfl) f_RX2_31 g1 rfl (by simp [up2]) ?_
      refine s_aload_n (tb_ok aX2_readNumber_0 5 rfl) rfl ?_
      refine s_getI (x := (nI n)) (tb_ok aX2_readNumber_0 6 rfl) f_RX2_15 g1 rfl (by simp [up2]; exact hn) ?_
      refine s_icmp_ge (tgt := 78) (tb_ok aX2_readNumber_0 7 rfl) (by decide) (fun c13 => ?_) (fun c13 => ?_)
      · simp (disch := omega) only [nI_leI] at c13
        omega
      · refine s_aload_n (tb_ok aX2_readNumber_0 8 rfl) rfl ?_
        refine s_getI (x := (nI (p + k))) (tb_ok aX2_readNumber_0 9 rfl) f_RX2_31 g1 rfl (by simp [up2]) ?_
        refine s_sipush (v := nI 160) (tb_ok aX2_readNumber_0 10 rfl) (by decide) ?_
        refine s_icmp_ge (tgt := 78) (tb_ok aX2_readNumber_0 11 rfl) (by decide) (fun c23 => ?_) (fun c23 => ?_)
        · simp (disch := omega) only [nI_leI] at c23
          omega
        · refine s_aload_n (tb_ok aX2_readNumber_0 12 rfl) rfl ?_
          refine s_getR (r := 63) (tb_ok aX2_readNumber_0 13 rfl) f_RX2_11 g1 rfl g2 ?_
          refine s_aload_n (tb_ok aX2_readNumber_0 14 rfl) rfl ?_
          refine s_getI (x := (nI (p + k))) (tb_ok aX2_readNumber_0 15 rfl) f_RX2_31 g1 rfl (by simp [up2]) ?_
          refine s_ialdN (tb_ok aX2_readNumber_0 16 rfl) g3 (by omega) (by decide) ?_
          refine s_cSp (as := [_]) (tb_ok aX2_readNumber_0 17 rfl) v_RX2_94 (E_isDigit _) (by decide) rfl rfl (Nat.le_of_ble_eq_true rfl) ?_
          refine s_if_eq (tgt := 78) (tb_ok aX2_readNumber_0 18 rfl) (by decide) (fun c38 => ?_) (fun c38 => ?_)
          · have hnl : ¬ dgP (I 63 (p + k)) := bI_0.mp c38
            have e1 : p + k = (scan dgP (I 63) n p) := by rw [← hi0]; exact (scan_e (fun h => hnl h.2)).symm
            refine s_eqI ?_ tail
            rw [← show k = ((scan dgP (I 63) n p) - p) by omega]
          · refine s_aload_n (tb_ok aX2_readNumber_0 19 rfl) rfl ?_
            refine s_aload_n (tb_ok aX2_readNumber_0 20 rfl) rfl ?_
            refine s_getI (x := (nuV (I 63) p k)) (tb_ok aX2_readNumber_0 21 rfl) f_RX2_81 g1 rfl (by simp [up2]) ?_
            refine s_bipush (v := 10) (tb_ok aX2_readNumber_0 22 rfl) (by decide) ?_
            refine s_imul (tb_ok aX2_readNumber_0 23 rfl) ?_
            refine s_aload_n (tb_ok aX2_readNumber_1 0 rfl) rfl ?_
            refine s_getR (r := 63) (tb_ok aX2_readNumber_1 1 rfl) f_RX2_11 g1 rfl g2 ?_
            refine s_aload_n (tb_ok aX2_readNumber_1 2 rfl) rfl ?_
            refine s_getI (x := (nI (p + k))) (tb_ok aX2_readNumber_1 3 rfl) f_RX2_31 g1 rfl (by simp [up2]) ?_
            refine s_ialdN (tb_ok aX2_readNumber_1 4 rfl) g3 (by omega) (by decide) ?_
            refine s_iadd (tb_ok aX2_readNumber_1 5 rfl) ?_
            refine s_bipush (v := 48) (tb_ok aX2_readNumber_1 6 rfl) (by decide) ?_
            refine s_isub (tb_ok aX2_readNumber_1 7 rfl) ?_
            refine s_putI (tb_ok aX2_readNumber_1 8 rfl) f_RX2_81 g1 rfl ?_
            refine s_aload_n (tb_ok aX2_readNumber_1 9 rfl) rfl ?_
            refine s_dup (tb_ok aX2_readNumber_1 10 rfl) rfl ?_
            refine s_getI (x := (nI (p + k))) (tb_ok aX2_readNumber_1 11 rfl) f_RX2_31 g1 rfl (by simp [up2]) ?_
            refine s_iconst (v := 1) (tb_ok aX2_readNumber_1 12 rfl) (by decide) ?_
            refine s_iadd (tb_ok aX2_readNumber_1 13 rfl) ?_
            refine s_putI (tb_ok aX2_readNumber_1 14 rfl) f_RX2_31 g1 rfl ?_
            refine s_goto (tgt := 5) (tb_ok aX2_readNumber_1 15 rfl) (by decide) ?_
            have hl2 : dgP (I 63 (p + k)) := bI_1.mp (by rcases bI_01 (dgP (I 63 (p + k))) with h | h; exact absurd h c38; exact h)
            rw [nI_1, up2_4]
            exact ih (by rw [← hi0]; exact (scan_s (by omega) hl2).symm)
  refine ev_of (by decide +kernel) rfl ?_
  show SW X _ _ _ 0 [some (.ref 62)] [] S I L R _
  refine s_aload_n (tb_ok aX2_readNumber_0 0 rfl) rfl ?_
  refine s_iconst (v := 0) (tb_ok aX2_readNumber_0 1 rfl) (by decide) ?_
  refine s_putI (tb_ok aX2_readNumber_0 2 rfl) f_RX2_81 g1 rfl ?_
  refine s_eqI ?_ (loop 0 (Nat.zero_le _) rfl)
  exact (up2_self (I := up2 I 62 6 0) (by simp [up2]; exact h3)).symm
