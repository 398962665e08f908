/-! what follows: by the laws (fr k: the facts of law k as bits, fa k: its fact), m laws -/
def nxS (fr fa : Nat → Int32) (set wo : Int32) : Nat → Int32
  | 0 => 0
  | k + 1 => if ¬ (nI k = wo) ∧ fr k &&& ~~~set = 0 then nxS fr fa set wo k ||| ((1 : Int32) <<< (fa k &&& 31)) else nxS fr fa set wo k
def nx (fr fa : Nat → Int32) (m : Nat) (set wo : Int32) : Int32 := nxS fr fa set wo m &&& ~~~set
/-- all that follows, in so many rounds at most -/
def clo (fr fa : Nat → Int32) (m : Nat) (wo : Int32) : Nat → Int32 → Int32
  | 0, s => s
  | k + 1, s => if nx fr fa m s wo = 0 then s else clo fr fa m wo k (s ||| nx fr fa m s wo)
/-- behind how many rounds -/
def rnd (fr fa : Nat → Int32) (m : Nat) : Nat → Int32 → Nat → Nat
  | 0, _, c => c
  | k + 1, s, c => if nx fr fa m s (-1) = 0 then c else rnd fr fa m k (s ||| nx fr fa m s (-1)) (c + 1)
def idl (fr fa : Nat → Int32) (m : Nat) : Nat → Int32
  | 0 => 0
  | k + 1 => idl fr fa m k ||| ((((clo fr fa m (nI k) 12 (fr k)) >>> (fa k &&& 31)) &&& 1) <<< (nI k &&& 31))
def rts (fa : Nat → Int32) : Nat → Int32
  | 0 => 4095
  | k + 1 => rts fa k &&& ~~~((1 : Int32) <<< (fa k &&& 31))
/-- a row filled up to place k -/
def flO (I : FI) (o : Nat) (g : Nat → Int32) (k : Nat) : FI := fun a j => if a = o ∧ j < k then g j else I a j
theorem flO_n {I : FI} {o a : Nat} {g : Nat → Int32} {k : Nat} (h : a ≠ o) : flO I o g k a = I a := by funext j; simp [flO, h]
theorem flO_0 {I : FI} {o : Nat} {g : Nat → Int32} : flO I o g 0 = I := by funext a j; simp [flO]
theorem flO_s {I : FI} {o : Nat} {g : Nat → Int32} {k : Nat} {x : Int32} (h : x = g k) : up2 (flO I o g k) o k x = flO I o g (k + 1) := by
  subst h
  funext a j
  unfold up2 flO
  by_cases ha : a = o
  · subst ha
    by_cases hj : j = k
    · subst hj; simp
    · have : j < k + 1 ↔ j < k := by omega
      simp [hj, this]
  · simp [ha]
theorem flO_at {I : FI} {o : Nat} {g : Nat → Int32} {k j : Nat} (h : j < k) : flO I o g k o j = g j := by simp [flO, h]
/-- all that follows from one fact -/
def cl1 (fr fa : Nat → Int32) (m : Nat) (f : Nat) : Int32 := clo fr fa m (-1) 12 ((1 : Int32) <<< (nI f &&& 31))
def smB (A : Nat → Int32) (f : Nat) : Nat → Int32
  | 0 => 0
  | g + 1 => smB A f g + (((A f >>> (nI g &&& 31)) &&& (A g >>> (nI f &&& 31))) &&& 1)
def smT (A : Nat → Int32) : Nat → Int32
  | 0 => 0
  | f + 1 => smT A f + smB A f f

set_option maxRecDepth 100000 in
set_option maxHeartbeats 4000000 in
theorem E_next {X : En} {S : Sh} {I : FI} {L : FL} {R : FR} {lo m : Nat} (hL : isLore S R lo) (hm : I lo 3 = nI m) (hm10 : m ≤ 10) (set wo : Int32) : Ev X 0 mX0_next (0, 0) [.ref lo, .int set, .int wo] S I L R (PureR (some (.int (nx (I (lo + 1)) (I (lo + 2)) m set wo))) S I L R) := by
  obtain ⟨h1, h2, h3, h4, h5, h6, h7⟩ := id hL
  have loop : ∀ k, k ≤ m → SW X 0 mX0_next (0, 0) 5 [some (.ref lo), some (.int set), some (.int wo), some (.int (nxS (I (lo + 1)) (I (lo + 2)) set wo k)), some (.int (nI k))] [] S I L R (KQ X (PureR (some (.int (nx (I (lo + 1)) (I (lo + 2)) m set wo))) S I L R)) := by
    refine for_up (P := fun k => SW X 0 mX0_next (0, 0) 5 [some (.ref lo), some (.int set), some (.int wo), some (.int (nxS (I (lo + 1)) (I (lo + 2)) set wo k)), some (.int (nI k))] [] S I L R (KQ X (PureR (some (.int (nx (I (lo + 1)) (I (lo + 2)) m set wo))) S I L R))) m ?_ ?_
    · refine s_iload (tb_ok aX0_next_0 4 rfl) rfl ?_
      refine s_aload_n (tb_ok aX0_next_0 5 rfl) rfl ?_
      refine s_getI (x := (nI m)) (tb_ok aX0_next_0 6 rfl) f_RX0_21 h1 rfl hm ?_
      refine s_icmp_ge (tgt := 59) (tb_ok aX0_next_0 7 rfl) (by decide) (fun c11 => ?_) (fun c11 => ?_)
      · refine s_iload_n (tb_ok aX0_next_1 10 rfl) rfl ?_
        refine s_iload_n (tb_ok aX0_next_1 11 rfl) rfl ?_
        refine s_iconst (v := -1) (tb_ok aX0_next_1 12 rfl) (by decide) ?_
        refine s_ixor (tb_ok aX0_next_1 13 rfl) ?_
        refine s_iand (tb_ok aX0_next_1 14 rfl) ?_
        refine s_iret (tb_ok aX0_next_1 15 rfl) rfl ?_
        exact pureE (by simp [nx])
      · simp (disch := omega) only [nI_ltI, nI_leI, nI_eq] at c11
        omega
    · intro k hk ih
      refine s_iload (tb_ok aX0_next_0 4 rfl) rfl ?_
      refine s_aload_n (tb_ok aX0_next_0 5 rfl) rfl ?_
      refine s_getI (x := (nI m)) (tb_ok aX0_next_0 6 rfl) f_RX0_21 h1 rfl hm ?_
      refine s_icmp_ge (tgt := 59) (tb_ok aX0_next_0 7 rfl) (by decide) (fun c11 => ?_) (fun c11 => ?_)
      · simp (disch := omega) only [nI_ltI, nI_leI, nI_eq] at c11
        omega
      · refine s_iload (tb_ok aX0_next_0 8 rfl) rfl ?_
        refine s_bipush (v := nI 10) (tb_ok aX0_next_0 9 rfl) (by decide) ?_
        refine s_icmp_ge (tgt := 59) (tb_ok aX0_next_0 10 rfl) (by decide) (fun c18 => ?_) (fun c18 => ?_)
        · simp (disch := omega) only [nI_ltI, nI_leI, nI_eq] at c18
          omega
        · refine s_iload (tb_ok aX0_next_0 11 rfl) rfl ?_
          refine s_iload_n (tb_ok aX0_next_0 12 rfl) rfl ?_
          refine s_icmp_eq (tgt := 53) (tb_ok aX0_next_0 13 rfl) (by decide) (fun c24 => ?_) (fun c24 => ?_)
          · refine s_iinc (v := nI (k + 1)) (ls' := [some (.ref lo), some (.int set), some (.int wo), some (.int (nxS (I (lo + 1)) (I (lo + 2)) set wo k)), some (.int (nI (k + 1)))]) (tb_ok aX0_next_1 8 rfl) rfl (nI_1 _) rfl rfl ?_
            refine s_goto (tgt := 5) (tb_ok aX0_next_1 9 rfl) (by decide) ?_
            refine s_ls ?_ ih
            simp_all [nxS]
          · refine s_aload_n (tb_ok aX0_next_0 14 rfl) rfl ?_
            refine s_getR (r := (lo + 1)) (tb_ok aX0_next_0 15 rfl) f_RX0_9 h1 rfl h2 ?_
            refine s_iload (tb_ok aX0_next_0 16 rfl) rfl ?_
            refine s_ialdN (tb_ok aX0_next_0 17 rfl) h3 (by omega) (by decide) ?_
            refine s_iload_n (tb_ok aX0_next_0 18 rfl) rfl ?_
            refine s_iconst (v := -1) (tb_ok aX0_next_0 19 rfl) (by decide) ?_
            refine s_ixor (tb_ok aX0_next_0 20 rfl) ?_
            refine s_iand (tb_ok aX0_next_0 21 rfl) ?_
            refine s_if_ne (tgt := 53) (tb_ok aX0_next_0 22 rfl) (by decide) (fun c38 => ?_) (fun c38 => ?_)
            · refine s_iinc (v := nI (k + 1)) (ls' := [some (.ref lo), some (.int set), some (.int wo), some (.int (nxS (I (lo + 1)) (I (lo + 2)) set wo k)), some (.int (nI (k + 1)))]) (tb_ok aX0_next_1 8 rfl) rfl (nI_1 _) rfl rfl ?_
              refine s_goto (tgt := 5) (tb_ok aX0_next_1 9 rfl) (by decide) ?_
              refine s_ls ?_ ih
              simp_all [nxS]
            · refine s_iload_n (tb_ok aX0_next_0 23 rfl) rfl ?_
              refine s_iconst (v := 1) (tb_ok aX0_next_1 0 rfl) (by decide) ?_
              refine s_aload_n (tb_ok aX0_next_1 1 rfl) rfl ?_
              refine s_getR (r := (lo + 2)) (tb_ok aX0_next_1 2 rfl) f_RX0_15 h1 rfl h4 ?_
              refine s_iload (tb_ok aX0_next_1 3 rfl) rfl ?_
              refine s_ialdN (tb_ok aX0_next_1 4 rfl) h5 (by omega) (by decide) ?_
              refine s_ishl (tb_ok aX0_next_1 5 rfl) ?_
              refine s_ior (tb_ok aX0_next_1 6 rfl) ?_
              refine s_name (fun x1 ex1 => ?_)
              refine s_istore_n (ls' := [some (.ref lo), some (.int set), some (.int wo), some (.int x1), some (.int (nI k))]) (tb_ok aX0_next_1 7 rfl) rfl rfl ?_
              refine s_iinc (v := nI (k + 1)) (ls' := [some (.ref lo), some (.int set), some (.int wo), some (.int x1), some (.int (nI (k + 1)))]) (tb_ok aX0_next_1 8 rfl) rfl (nI_1 _) rfl rfl ?_
              refine s_goto (tgt := 5) (tb_ok aX0_next_1 9 rfl) (by decide) ?_
              refine s_ls ?_ ih
              simp_all [nxS]
  refine ev_of (by decide +kernel) rfl ?_
  show SW X _ _ _ 0 [some (.ref lo), some (.int set), some (.int wo), none, none] [] S I L R _
  refine s_iconst (v := 0) (tb_ok aX0_next_0 0 rfl) (by decide) ?_
  refine s_istore_n (ls' := [some (.ref lo), some (.int set), some (.int wo), some (.int (0)), none]) (tb_ok aX0_next_0 1 rfl) rfl rfl ?_
  refine s_iconst (v := nI 0) (tb_ok aX0_next_0 2 rfl) (by decide) ?_
  refine s_istore (ls' := [some (.ref lo), some (.int set), some (.int wo), some (.int (0)), some (.int (nI 0))]) (tb_ok aX0_next_0 3 rfl) rfl rfl ?_
  exact loop 0 (Nat.zero_le _)

set_option maxRecDepth 100000 in
set_option maxHeartbeats 4000000 in
theorem E_closure {X : En} {S : Sh} {I : FI} {L : FL} {R : FR} {lo m : Nat} (hL : isLore S R lo) (hm : I lo 3 = nI m) (hm10 : m ≤ 10) (set wo : Int32) : Ev X 1 mX0_closure (0, 0) [.ref lo, .int set, .int wo] S I L R (PureR (some (.int (clo (I (lo + 1)) (I (lo + 2)) m wo 12 set))) S I L R) := by
  obtain ⟨h1, h2, h3, h4, h5, h6, h7⟩ := id hL
  have loop : ∀ k, k ≤ 12 → ∀ (al : Int32), ∀ (o5 : Option Value), (clo (I (lo + 1)) (I (lo + 2)) m wo (12 - k) al = clo (I (lo + 1)) (I (lo + 2)) m wo 12 set) → SW X 1 mX0_closure (0, 0) 5 [some (.ref lo), some (.int set), some (.int wo), some (.int al), some (.int (nI k)), o5] [] S I L R (KQ X (PureR (some (.int (clo (I (lo + 1)) (I (lo + 2)) m wo 12 set))) S I L R)) := by
    refine for_up (P := fun k => ∀ (al : Int32), ∀ (o5 : Option Value), (clo (I (lo + 1)) (I (lo + 2)) m wo (12 - k) al = clo (I (lo + 1)) (I (lo + 2)) m wo 12 set) → SW X 1 mX0_closure (0, 0) 5 [some (.ref lo), some (.int set), some (.int wo), some (.int al), some (.int (nI k)), o5] [] S I L R (KQ X (PureR (some (.int (clo (I (lo + 1)) (I (lo + 2)) m wo 12 set))) S I L R))) 12 ?_ ?_
    · intro al o5 hi
      refine s_iload (tb_ok aX0_closure_0 4 rfl) rfl ?_
      refine s_bipush (v := nI 12) (tb_ok aX0_closure_0 5 rfl) (by decide) ?_
      refine s_icmp_ge (tgt := 38) (tb_ok aX0_closure_0 6 rfl) (by decide) (fun c9 => ?_) (fun c9 => ?_)
      · refine s_iload_n (tb_ok aX0_closure_0 22 rfl) rfl ?_
        refine s_iret (tb_ok aX0_closure_0 23 rfl) rfl ?_
        exact pureE (by rw [← hi]; rfl)
      · simp (disch := omega) only [nI_ltI, nI_leI, nI_eq] at c9
        omega
    · intro k hk ih al o5 hi
      refine s_iload (tb_ok aX0_closure_0 4 rfl) rfl ?_
      refine s_bipush (v := nI 12) (tb_ok aX0_closure_0 5 rfl) (by decide) ?_
      refine s_icmp_ge (tgt := 38) (tb_ok aX0_closure_0 6 rfl) (by decide) (fun c9 => ?_) (fun c9 => ?_)
      · simp (disch := omega) only [nI_ltI, nI_leI, nI_eq] at c9
        omega
      · refine s_aload_n (tb_ok aX0_closure_0 7 rfl) rfl ?_
        refine s_iload_n (tb_ok aX0_closure_0 8 rfl) rfl ?_
        refine s_iload_n (tb_ok aX0_closure_0 9 rfl) rfl ?_
        refine s_cVp (as := [.int al, .int wo]) (tb_ok aX0_closure_0 10 rfl) v_RX0_25 (E_next hL hm hm10 al wo) (by decide) h1 rfl rfl rfl rfl (Nat.le_of_ble_eq_true rfl) (by decide) ?_
        refine s_name (fun x1 ex1 => ?_)
        refine s_istore (ls' := [some (.ref lo), some (.int set), some (.int wo), some (.int al), some (.int (nI k)), some (.int x1)]) (tb_ok aX0_closure_0 11 rfl) rfl rfl ?_
        refine s_iload (tb_ok aX0_closure_0 12 rfl) rfl ?_
        refine s_if_ne (tgt := 27) (tb_ok aX0_closure_0 13 rfl) (by decide) (fun c22 => ?_) (fun c22 => ?_)
        · refine s_iload_n (tb_ok aX0_closure_0 16 rfl) rfl ?_
          refine s_iload (tb_ok aX0_closure_0 17 rfl) rfl ?_
          refine s_ior (tb_ok aX0_closure_0 18 rfl) ?_
          refine s_name (fun x2 ex2 => ?_)
          refine s_istore_n (ls' := [some (.ref lo), some (.int set), some (.int wo), some (.int x2), some (.int (nI k)), some (.int x1)]) (tb_ok aX0_closure_0 19 rfl) rfl rfl ?_
          refine s_iinc (v := nI (k + 1)) (ls' := [some (.ref lo), some (.int set), some (.int wo), some (.int x2), some (.int (nI (k + 1))), some (.int x1)]) (tb_ok aX0_closure_0 20 rfl) rfl (nI_1 _) rfl rfl ?_
          refine s_goto (tgt := 5) (tb_ok aX0_closure_0 21 rfl) (by decide) ?_
          refine ih _ _ ?_
          rw [← hi, show 12 - k = 12 - (k + 1) + 1 by omega, clo, if_neg (by rw [← ex1]; exact c22), ex2, ex1]
        · refine s_iload_n (tb_ok aX0_closure_0 14 rfl) rfl ?_
          refine s_iret (tb_ok aX0_closure_0 15 rfl) rfl ?_
          exact pureE (by rw [← hi, show 12 - k = 12 - (k + 1) + 1 by omega, clo, if_pos (by rw [← ex1]; exact c22)])
  refine ev_of (by decide +kernel) rfl ?_
  show SW X _ _ _ 0 [some (.ref lo), some (.int set), some (.int wo), none, none, none] [] S I L R _
  refine s_iload_n (tb_ok aX0_closure_0 0 rfl) rfl ?_
  refine s_istore_n (ls' := [some (.ref lo), some (.int set), some (.int wo), some (.int set), none, none]) (tb_ok aX0_closure_0 1 rfl) rfl rfl ?_
  refine s_iconst (v := nI 0) (tb_ok aX0_closure_0 2 rfl) (by decide) ?_
  refine s_istore (ls' := [some (.ref lo), some (.int set), some (.int wo), some (.int set), some (.int (nI 0)), none]) (tb_ok aX0_closure_0 3 rfl) rfl rfl ?_
  exact loop 0 (Nat.zero_le _) _ _ rfl

set_option maxRecDepth 100000 in
set_option maxHeartbeats 4000000 in
theorem E_rounds {X : En} {S : Sh} {I : FI} {L : FL} {R : FR} {lo m : Nat} (hL : isLore S R lo) (hm : I lo 3 = nI m) (hm10 : m ≤ 10) (set : Int32) : Ev X 1 mX0_rounds (0, 0) [.ref lo, .int set] S I L R (PureR (some (.int (nI (rnd (I (lo + 1)) (I (lo + 2)) m 12 set 0)))) S I L R) := by
  obtain ⟨h1, h2, h3, h4, h5, h6, h7⟩ := id hL
  have loop : ∀ k, k ≤ 12 → ∀ (al : Int32), ∀ (o5 : Option Value), (rnd (I (lo + 1)) (I (lo + 2)) m (12 - k) al k = rnd (I (lo + 1)) (I (lo + 2)) m 12 set 0) → SW X 1 mX0_rounds (0, 0) 4 [some (.ref lo), some (.int set), some (.int al), some (.int (nI k)), o5] [] S I L R (KQ X (PureR (some (.int (nI (rnd (I (lo + 1)) (I (lo + 2)) m 12 set 0)))) S I L R)) := by
    refine for_up (P := fun k => ∀ (al : Int32), ∀ (o5 : Option Value), (rnd (I (lo + 1)) (I (lo + 2)) m (12 - k) al k = rnd (I (lo + 1)) (I (lo + 2)) m 12 set 0) → SW X 1 mX0_rounds (0, 0) 4 [some (.ref lo), some (.int set), some (.int al), some (.int (nI k)), o5] [] S I L R (KQ X (PureR (some (.int (nI (rnd (I (lo + 1)) (I (lo + 2)) m 12 set 0)))) S I L R))) 12 ?_ ?_
    · intro al o5 hi
      refine s_iload_n (tb_ok aX0_rounds_0 4 rfl) rfl ?_
      refine s_bipush (v := nI 12) (tb_ok aX0_rounds_0 5 rfl) (by decide) ?_
      refine s_icmp_ge (tgt := 36) (tb_ok aX0_rounds_0 6 rfl) (by decide) (fun c7 => ?_) (fun c7 => ?_)
      · refine s_bipush (v := nI 12) (tb_ok aX0_rounds_0 22 rfl) (by decide) ?_
        refine s_iret (tb_ok aX0_rounds_0 23 rfl) rfl ?_
        exact pureE (by rw [← hi]; rfl)
      · simp (disch := omega) only [nI_ltI, nI_leI, nI_eq] at c7
        omega
    · intro k hk ih al o5 hi
      refine s_iload_n (tb_ok aX0_rounds_0 4 rfl) rfl ?_
      refine s_bipush (v := nI 12) (tb_ok aX0_rounds_0 5 rfl) (by decide) ?_
      refine s_icmp_ge (tgt := 36) (tb_ok aX0_rounds_0 6 rfl) (by decide) (fun c7 => ?_) (fun c7 => ?_)
      · simp (disch := omega) only [nI_ltI, nI_leI, nI_eq] at c7
        omega
      · refine s_aload_n (tb_ok aX0_rounds_0 7 rfl) rfl ?_
        refine s_iload_n (tb_ok aX0_rounds_0 8 rfl) rfl ?_
        refine s_iconst (v := -1) (tb_ok aX0_rounds_0 9 rfl) (by decide) ?_
        refine s_cVp (as := [.int al, .int (-1)]) (tb_ok aX0_rounds_0 10 rfl) v_RX0_25 (E_next hL hm hm10 al (-1)) (by decide) h1 rfl rfl rfl rfl (Nat.le_of_ble_eq_true rfl) (by decide) ?_
        refine s_name (fun x1 ex1 => ?_)
        refine s_istore (ls' := [some (.ref lo), some (.int set), some (.int al), some (.int (nI k)), some (.int x1)]) (tb_ok aX0_rounds_0 11 rfl) rfl rfl ?_
        refine s_iload (tb_ok aX0_rounds_0 12 rfl) rfl ?_
        refine s_if_ne (tgt := 25) (tb_ok aX0_rounds_0 13 rfl) (by decide) (fun c20 => ?_) (fun c20 => ?_)
        · refine s_iload_n (tb_ok aX0_rounds_0 16 rfl) rfl ?_
          refine s_iload (tb_ok aX0_rounds_0 17 rfl) rfl ?_
          refine s_ior (tb_ok aX0_rounds_0 18 rfl) ?_
          refine s_name (fun x2 ex2 => ?_)
          refine s_istore_n (ls' := [some (.ref lo), some (.int set), some (.int x2), some (.int (nI k)), some (.int x1)]) (tb_ok aX0_rounds_0 19 rfl) rfl rfl ?_
          refine s_iinc (v := nI (k + 1)) (ls' := [some (.ref lo), some (.int set), some (.int x2), some (.int (nI (k + 1))), some (.int x1)]) (tb_ok aX0_rounds_0 20 rfl) rfl (nI_1 _) rfl rfl ?_
          refine s_goto (tgt := 4) (tb_ok aX0_rounds_0 21 rfl) (by decide) ?_
          refine ih _ _ ?_
          rw [← hi, show 12 - k = 12 - (k + 1) + 1 by omega, rnd, if_neg (by rw [← ex1]; exact c20), ex2, ex1]
        · refine s_iload_n (tb_ok aX0_rounds_0 14 rfl) rfl ?_
          refine s_iret (tb_ok aX0_rounds_0 15 rfl) rfl ?_
          exact pureE (by rw [← hi, show 12 - k = 12 - (k + 1) + 1 by omega, rnd, if_pos (by rw [← ex1]; exact c20)])
  refine ev_of (by decide +kernel) rfl ?_
  show SW X _ _ _ 0 [some (.ref lo), some (.int set), none, none, none] [] S I L R _
  refine s_iload_n (tb_ok aX0_rounds_0 0 rfl) rfl ?_
  refine s_istore_n (ls' := [some (.ref lo), some (.int set), some (.int set), none, none]) (tb_ok aX0_rounds_0 1 rfl) rfl rfl ?_
  refine s_iconst (v := nI 0) (tb_ok aX0_rounds_0 2 rfl) (by decide) ?_
  refine s_istore_n (ls' := [some (.ref lo), some (.int set), some (.int set), some (.int (nI 0)), none]) (tb_ok aX0_rounds_0 3 rfl) rfl rfl ?_
  exact loop 0 (Nat.zero_le _) _ _ rfl

set_option maxRecDepth 100000 in
set_option maxHeartbeats 4000000 in
theorem E_idle {X : En} {S : Sh} {I : FI} {L : FL} {R : FR} {lo m : Nat} (hL : isLore S R lo) (hm : I lo 3 = nI m) (hm10 : m ≤ 10) : Ev X 2 mX0_idle (0, 0) [.ref lo] S I L R (PureR (some (.int (idl (I (lo + 1)) (I (lo + 2)) m m))) S I L R) := by
  obtain ⟨h1, h2, h3, h4, h5, h6, h7⟩ := id hL
  have loop : ∀ k, k ≤ m → SW X 2 mX0_idle (0, 0) 4 [some (.ref lo), some (.int (idl (I (lo + 1)) (I (lo + 2)) m k)), some (.int (nI k))] [] S I L R (KQ X (PureR (some (.int (idl (I (lo + 1)) (I (lo + 2)) m m))) S I L R)) := by
    refine for_up (P := fun k => SW X 2 mX0_idle (0, 0) 4 [some (.ref lo), some (.int (idl (I (lo + 1)) (I (lo + 2)) m k)), some (.int (nI k))] [] S I L R (KQ X (PureR (some (.int (idl (I (lo + 1)) (I (lo + 2)) m m))) S I L R))) m ?_ ?_
    · refine s_iload_n (tb_ok aX0_idle_0 4 rfl) rfl ?_
      refine s_aload_n (tb_ok aX0_idle_0 5 rfl) rfl ?_
      refine s_getI (x := (nI m)) (tb_ok aX0_idle_0 6 rfl) f_RX0_21 h1 rfl hm ?_
      refine s_icmp_ge (tgt := 49) (tb_ok aX0_idle_0 7 rfl) (by decide) (fun c9 => ?_) (fun c9 => ?_)
      · refine s_iload_n (tb_ok aX0_idle_1 8 rfl) rfl ?_
        refine s_iret (tb_ok aX0_idle_1 9 rfl) rfl ?_
        exact pureE (rfl)
      · simp (disch := omega) only [nI_ltI, nI_leI, nI_eq] at c9
        omega
    · intro k hk ih
      refine s_iload_n (tb_ok aX0_idle_0 4 rfl) rfl ?_
      refine s_aload_n (tb_ok aX0_idle_0 5 rfl) rfl ?_
      refine s_getI (x := (nI m)) (tb_ok aX0_idle_0 6 rfl) f_RX0_21 h1 rfl hm ?_
      refine s_icmp_ge (tgt := 49) (tb_ok aX0_idle_0 7 rfl) (by decide) (fun c9 => ?_) (fun c9 => ?_)
      · simp (disch := omega) only [nI_ltI, nI_leI, nI_eq] at c9
        omega
      · refine s_iload_n (tb_ok aX0_idle_0 8 rfl) rfl ?_
        refine s_bipush (v := nI 10) (tb_ok aX0_idle_0 9 rfl) (by decide) ?_
        refine s_icmp_ge (tgt := 49) (tb_ok aX0_idle_0 10 rfl) (by decide) (fun c15 => ?_) (fun c15 => ?_)
        · simp (disch := omega) only [nI_ltI, nI_leI, nI_eq] at c15
          omega
        · refine s_iload_n (tb_ok aX0_idle_0 11 rfl) rfl ?_
          refine s_aload_n (tb_ok aX0_idle_0 12 rfl) rfl ?_
          refine s_aload_n (tb_ok aX0_idle_0 13 rfl) rfl ?_
          refine s_getR (r := (lo + 1)) (tb_ok aX0_idle_0 14 rfl) f_RX0_9 h1 rfl h2 ?_
          refine s_iload_n (tb_ok aX0_idle_0 15 rfl) rfl ?_
          refine s_ialdN (tb_ok aX0_idle_0 16 rfl) h3 (by omega) (by decide) ?_
          refine s_iload_n (tb_ok aX0_idle_0 17 rfl) rfl ?_
          refine s_cVp (as := [_, .int (nI k)]) (tb_ok aX0_idle_0 18 rfl) v_RX0_29 (E_closure hL hm hm10 _ _) (by decide) h1 rfl rfl rfl rfl (Nat.le_of_ble_eq_true rfl) (by decide) ?_
          refine s_aload_n (tb_ok aX0_idle_0 19 rfl) rfl ?_
          refine s_getR (r := (lo + 2)) (tb_ok aX0_idle_0 20 rfl) f_RX0_15 h1 rfl h4 ?_
          refine s_iload_n (tb_ok aX0_idle_0 21 rfl) rfl ?_
          refine s_ialdN (tb_ok aX0_idle_0 22 rfl) h5 (by omega) (by decide) ?_
          refine s_ishr (tb_ok aX0_idle_0 23 rfl) ?_
          refine s_iconst (v := 1) (tb_ok aX0_idle_1 0 rfl) (by decide) ?_
          refine s_iand (tb_ok aX0_idle_1 1 rfl) ?_
          refine s_iload_n (tb_ok aX0_idle_1 2 rfl) rfl ?_
          refine s_ishl (tb_ok aX0_idle_1 3 rfl) ?_
          refine s_ior (tb_ok aX0_idle_1 4 rfl) ?_
          refine s_name (fun x1 ex1 => ?_)
          refine s_istore_n (ls' := [some (.ref lo), some (.int x1), some (.int (nI k))]) (tb_ok aX0_idle_1 5 rfl) rfl rfl ?_
          refine s_iinc (v := nI (k + 1)) (ls' := [some (.ref lo), some (.int x1), some (.int (nI (k + 1)))]) (tb_ok aX0_idle_1 6 rfl) rfl (nI_1 _) rfl rfl ?_
          refine s_goto (tgt := 4) (tb_ok aX0_idle_1 7 rfl) (by decide) ?_
          rw [ex1]
          exact ih
  refine ev_of (by decide +kernel) rfl ?_
  show SW X _ _ _ 0 [some (.ref lo), none, none] [] S I L R _
  refine s_iconst (v := 0) (tb_ok aX0_idle_0 0 rfl) (by decide) ?_
  refine s_istore_n (ls' := [some (.ref lo), some (.int (0)), none]) (tb_ok aX0_idle_0 1 rfl) rfl rfl ?_
  refine s_iconst (v := nI 0) (tb_ok aX0_idle_0 2 rfl) (by decide) ?_
  refine s_istore_n (ls' := [some (.ref lo), some (.int (0)), some (.int (nI 0))]) (tb_ok aX0_idle_0 3 rfl) rfl rfl ?_
  exact loop 0 (Nat.zero_le _)

set_option maxRecDepth 100000 in
set_option maxHeartbeats 4000000 in
theorem E_roots {X : En} {S : Sh} {I : FI} {L : FL} {R : FR} {lo m : Nat} (hL : isLore S R lo) (hm : I lo 3 = nI m) (hm10 : m ≤ 10) : Ev X 0 mX0_roots (0, 0) [.ref lo] S I L R (PureR (some (.int (rts (I (lo + 2)) m))) S I L R) := by
  obtain ⟨h1, h2, h3, h4, h5, h6, h7⟩ := id hL
  have loop : ∀ k, k ≤ m → SW X 0 mX0_roots (0, 0) 6 [some (.ref lo), some (.int (rts (I (lo + 2)) k)), some (.int (nI k))] [] S I L R (KQ X (PureR (some (.int (rts (I (lo + 2)) m))) S I L R)) := by
    refine for_up (P := fun k => SW X 0 mX0_roots (0, 0) 6 [some (.ref lo), some (.int (rts (I (lo + 2)) k)), some (.int (nI k))] [] S I L R (KQ X (PureR (some (.int (rts (I (lo + 2)) m))) S I L R))) m ?_ ?_
    · refine s_iload_n (tb_ok aX0_roots_0 4 rfl) rfl ?_
      refine s_aload_n (tb_ok aX0_roots_0 5 rfl) rfl ?_
      refine s_getI (x := (nI m)) (tb_ok aX0_roots_0 6 rfl) f_RX0_21 h1 rfl hm ?_
      refine s_icmp_ge (tgt := 39) (tb_ok aX0_roots_0 7 rfl) (by decide) (fun c11 => ?_) (fun c11 => ?_)
      · refine s_iload_n (tb_ok aX0_roots_1 0 rfl) rfl ?_
        refine s_iret (tb_ok aX0_roots_1 1 rfl) rfl ?_
        exact pureE (rfl)
      · simp (disch := omega) only [nI_ltI, nI_leI, nI_eq] at c11
        omega
    · intro k hk ih
      refine s_iload_n (tb_ok aX0_roots_0 4 rfl) rfl ?_
      refine s_aload_n (tb_ok aX0_roots_0 5 rfl) rfl ?_
      refine s_getI (x := (nI m)) (tb_ok aX0_roots_0 6 rfl) f_RX0_21 h1 rfl hm ?_
      refine s_icmp_ge (tgt := 39) (tb_ok aX0_roots_0 7 rfl) (by decide) (fun c11 => ?_) (fun c11 => ?_)
      · simp (disch := omega) only [nI_ltI, nI_leI, nI_eq] at c11
        omega
      · refine s_iload_n (tb_ok aX0_roots_0 8 rfl) rfl ?_
        refine s_bipush (v := nI 10) (tb_ok aX0_roots_0 9 rfl) (by decide) ?_
        refine s_icmp_ge (tgt := 39) (tb_ok aX0_roots_0 10 rfl) (by decide) (fun c17 => ?_) (fun c17 => ?_)
        · simp (disch := omega) only [nI_ltI, nI_leI, nI_eq] at c17
          omega
        · refine s_iload_n (tb_ok aX0_roots_0 11 rfl) rfl ?_
          refine s_iconst (v := 1) (tb_ok aX0_roots_0 12 rfl) (by decide) ?_
          refine s_aload_n (tb_ok aX0_roots_0 13 rfl) rfl ?_
          refine s_getR (r := (lo + 2)) (tb_ok aX0_roots_0 14 rfl) f_RX0_15 h1 rfl h4 ?_
          refine s_iload_n (tb_ok aX0_roots_0 15 rfl) rfl ?_
          refine s_ialdN (tb_ok aX0_roots_0 16 rfl) h5 (by omega) (by decide) ?_
          refine s_ishl (tb_ok aX0_roots_0 17 rfl) ?_
          refine s_iconst (v := -1) (tb_ok aX0_roots_0 18 rfl) (by decide) ?_
          refine s_ixor (tb_ok aX0_roots_0 19 rfl) ?_
          refine s_iand (tb_ok aX0_roots_0 20 rfl) ?_
          refine s_name (fun x1 ex1 => ?_)
          refine s_istore_n (ls' := [some (.ref lo), some (.int x1), some (.int (nI k))]) (tb_ok aX0_roots_0 21 rfl) rfl rfl ?_
          refine s_iinc (v := nI (k + 1)) (ls' := [some (.ref lo), some (.int x1), some (.int (nI (k + 1)))]) (tb_ok aX0_roots_0 22 rfl) rfl (nI_1 _) rfl rfl ?_
          refine s_goto (tgt := 6) (tb_ok aX0_roots_0 23 rfl) (by decide) ?_
          refine s_ls ?_ ih
          rw [ex1]; simp [rts]
  refine ev_of (by decide +kernel) rfl ?_
  show SW X _ _ _ 0 [some (.ref lo), none, none] [] S I L R _
  refine s_sipush (v := 4095) (tb_ok aX0_roots_0 0 rfl) (by decide) ?_
  refine s_istore_n (ls' := [some (.ref lo), some (.int (4095)), none]) (tb_ok aX0_roots_0 1 rfl) rfl rfl ?_
  refine s_iconst (v := nI 0) (tb_ok aX0_roots_0 2 rfl) (by decide) ?_
  refine s_istore_n (ls' := [some (.ref lo), some (.int (4095)), some (.int (nI 0))]) (tb_ok aX0_roots_0 3 rfl) rfl rfl ?_
  exact loop 0 (Nat.zero_le _)

def us (x k : Int32) : Int32 := (x.toUInt32 >>> (k.toUInt32 &&& Int32.toUInt32 31)).toInt32
def bc1 (x : Int32) : Int32 := x - (us x 1 &&& 1431655765)
def bc2 (x : Int32) : Int32 := (x &&& 858993459) + (us x 2 &&& 858993459)
def bc3 (x : Int32) : Int32 := (x + us x 4) &&& 252645135
def bc4 (x : Int32) : Int32 := x + us x 8
def bc5 (x : Int32) : Int32 := (x + us x 16) &&& 63
/-- how many bits, as Integer.bitCount counts them -/
def bcF (x : Int32) : Int32 := bc5 (bc4 (bc3 (bc2 (bc1 x))))
def fwF (fr fa : Nat → Int32) (m : Nat) (kn ak : Int32) : Nat → Nat → Int32
  | 0, _ => (1 : Int32) <<< (ak &&& 31)
  | n + 1, f => if (kn >>> (nI f &&& 31)) &&& 1 = 0 ∧ ¬ ((clo fr fa m (-1) 12 (kn ||| ((1 : Int32) <<< (nI f &&& 31)))) >>> (ak &&& 31)) &&& 1 = 0 then (1 : Int32) <<< (nI f &&& 31) else fwF fr fa m kn ak n (f + 1)
def few (fr fa : Nat → Int32) (m : Nat) (kn ak : Int32) : Int32 := if ¬ ((clo fr fa m (-1) 12 kn) >>> (ak &&& 31)) &&& 1 = 0 then 0 else fwF fr fa m kn ak 12 0
def msF (fr fa : Nat → Int32) (m : Nat) (kn : Int32) : Nat → Int32 × Int32
  | 0 => (bcF (clo fr fa m (-1) 12 kn), -1)
  | k + 1 => if bcF (clo fr fa m (nI k) 12 kn) < (msF fr fa m kn k).1 then (bcF (clo fr fa m (nI k) 12 kn), nI k) else msF fr fa m kn k

set_option maxRecDepth 100000 in
set_option maxHeartbeats 4000000 in
theorem E_bc {X : En} {S : Sh} {I : FI} {L : FL} {R : FR} (x : Int32) : Ev X 0 mJ6_bitCount_0f7a4 (0, 0) [.int x] S I L R (PureR (some (.int (bcF x))) S I L R) := by
  refine ev_of (by decide +kernel) rfl ?_
  show SW X _ _ _ 0 [some (.int x)] [] S I L R _
  refine s_iload_n (tb_ok aJ6_bitCount_0f7a4_0 0 rfl) rfl ?_
  refine s_iload_n (tb_ok aJ6_bitCount_0f7a4_0 1 rfl) rfl ?_
  refine s_iconst (v := 1) (tb_ok aJ6_bitCount_0f7a4_0 2 rfl) (by decide) ?_
  refine s_iushr (tb_ok aJ6_bitCount_0f7a4_0 3 rfl) ?_
  refine s_ldcw (tb_ok aJ6_bitCount_0f7a4_0 4 rfl) k_RJ6_265 ?_
  refine s_iand (tb_ok aJ6_bitCount_0f7a4_0 5 rfl) ?_
  refine s_isub (tb_ok aJ6_bitCount_0f7a4_0 6 rfl) ?_
  refine s_name (fun x1 ex1 => ?_)
  refine s_istore_n (ls' := [some (.int x1)]) (tb_ok aJ6_bitCount_0f7a4_0 7 rfl) rfl rfl ?_
  refine s_iload_n (tb_ok aJ6_bitCount_0f7a4_0 8 rfl) rfl ?_
  refine s_ldcw (tb_ok aJ6_bitCount_0f7a4_0 9 rfl) k_RJ6_266 ?_
  refine s_iand (tb_ok aJ6_bitCount_0f7a4_0 10 rfl) ?_
  refine s_iload_n (tb_ok aJ6_bitCount_0f7a4_0 11 rfl) rfl ?_
  refine s_iconst (v := 2) (tb_ok aJ6_bitCount_0f7a4_0 12 rfl) (by decide) ?_
  refine s_iushr (tb_ok aJ6_bitCount_0f7a4_0 13 rfl) ?_
  refine s_ldcw (tb_ok aJ6_bitCount_0f7a4_0 14 rfl) k_RJ6_266 ?_
  refine s_iand (tb_ok aJ6_bitCount_0f7a4_0 15 rfl) ?_
  refine s_iadd (tb_ok aJ6_bitCount_0f7a4_0 16 rfl) ?_
  refine s_name (fun x2 ex2 => ?_)
  refine s_istore_n (ls' := [some (.int x2)]) (tb_ok aJ6_bitCount_0f7a4_0 17 rfl) rfl rfl ?_
  refine s_iload_n (tb_ok aJ6_bitCount_0f7a4_0 18 rfl) rfl ?_
  refine s_iload_n (tb_ok aJ6_bitCount_0f7a4_0 19 rfl) rfl ?_
  refine s_iconst (v := 4) (tb_ok aJ6_bitCount_0f7a4_0 20 rfl) (by decide) ?_
  refine s_iushr (tb_ok aJ6_bitCount_0f7a4_0 21 rfl) ?_
  refine s_iadd (tb_ok aJ6_bitCount_0f7a4_0 22 rfl) ?_
  refine s_ldcw (tb_ok aJ6_bitCount_0f7a4_0 23 rfl) k_RJ6_267 ?_
  refine s_iand (tb_ok aJ6_bitCount_0f7a4_1 0 rfl) ?_
  refine s_name (fun x3 ex3 => ?_)
  refine s_istore_n (ls' := [some (.int x3)]) (tb_ok aJ6_bitCount_0f7a4_1 1 rfl) rfl rfl ?_
  refine s_iload_n (tb_ok aJ6_bitCount_0f7a4_1 2 rfl) rfl ?_
  refine s_iload_n (tb_ok aJ6_bitCount_0f7a4_1 3 rfl) rfl ?_
  refine s_bipush (v := 8) (tb_ok aJ6_bitCount_0f7a4_1 4 rfl) (by decide) ?_
  refine s_iushr (tb_ok aJ6_bitCount_0f7a4_1 5 rfl) ?_
  refine s_iadd (tb_ok aJ6_bitCount_0f7a4_1 6 rfl) ?_
  refine s_name (fun x4 ex4 => ?_)
  refine s_istore_n (ls' := [some (.int x4)]) (tb_ok aJ6_bitCount_0f7a4_1 7 rfl) rfl rfl ?_
  refine s_iload_n (tb_ok aJ6_bitCount_0f7a4_1 8 rfl) rfl ?_
  refine s_iload_n (tb_ok aJ6_bitCount_0f7a4_1 9 rfl) rfl ?_
  refine s_bipush (v := 16) (tb_ok aJ6_bitCount_0f7a4_1 10 rfl) (by decide) ?_
  refine s_iushr (tb_ok aJ6_bitCount_0f7a4_1 11 rfl) ?_
  refine s_iadd (tb_ok aJ6_bitCount_0f7a4_1 12 rfl) ?_
  refine s_name (fun x5 ex5 => ?_)
  refine s_istore_n (ls' := [some (.int x5)]) (tb_ok aJ6_bitCount_0f7a4_1 13 rfl) rfl rfl ?_
  refine s_iload_n (tb_ok aJ6_bitCount_0f7a4_1 14 rfl) rfl ?_
  refine s_bipush (v := 63) (tb_ok aJ6_bitCount_0f7a4_1 15 rfl) (by decide) ?_
  refine s_iand (tb_ok aJ6_bitCount_0f7a4_1 16 rfl) ?_
  refine s_iret (tb_ok aJ6_bitCount_0f7a4_1 17 rfl) rfl ?_
  exact pureE (by subst_vars; rfl)

set_option maxRecDepth 100000 in
set_option maxHeartbeats 4000000 in
theorem E_fewest {X : En} {S : Sh} {I : FI} {L : FL} {R : FR} {lo m : Nat} (hL : isLore S R lo) (hm : I lo 3 = nI m) (hm10 : m ≤ 10) (kn ak : Int32) : Ev X 2 mX0_fewest (0, 0) [.ref lo, .int kn, .int ak] S I L R (PureR (some (.int (few (I (lo + 1)) (I (lo + 2)) m kn ak))) S I L R) := by
  obtain ⟨h1, h2, h3, h4, h5, h6, h7⟩ := id hL
  refine ev_of (by decide +kernel) rfl ?_
  show SW X _ _ _ 0 [some (.ref lo), some (.int kn), some (.int ak), none, none] [] S I L R _
  refine s_aload_n (tb_ok aX0_fewest_0 0 rfl) rfl ?_
  refine s_iload_n (tb_ok aX0_fewest_0 1 rfl) rfl ?_
  refine s_iconst (v := -1) (tb_ok aX0_fewest_0 2 rfl) (by decide) ?_
  refine s_cVp (as := [.int kn, .int (-1)]) (tb_ok aX0_fewest_0 3 rfl) v_RX0_29 (E_closure hL hm hm10 _ _) (by decide) h1 rfl rfl rfl rfl (Nat.le_of_ble_eq_true rfl) (by decide) ?_
  refine s_iload_n (tb_ok aX0_fewest_0 4 rfl) rfl ?_
  refine s_ishr (tb_ok aX0_fewest_0 5 rfl) ?_
  refine s_iconst (v := 1) (tb_ok aX0_fewest_0 6 rfl) (by decide) ?_
  refine s_iand (tb_ok aX0_fewest_0 7 rfl) ?_
  refine s_if_eq (tgt := 15) (tb_ok aX0_fewest_0 8 rfl) (by decide) (fun c10 => ?_) (fun c10 => ?_)
  · refine s_iconst (v := nI 0) (tb_ok aX0_fewest_0 11 rfl) (by decide) ?_
    refine s_istore_n (ls' := [some (.ref lo), some (.int kn), some (.int ak), some (.int (nI 0)), none]) (tb_ok aX0_fewest_0 12 rfl) rfl rfl ?_
    have loop : ∀ k, k ≤ 12 → ∀ (o4 : Option Value), (fwF (I (lo + 1)) (I (lo + 2)) m kn ak (12 - k) k = fwF (I (lo + 1)) (I (lo + 2)) m kn ak 12 0) → SW X 2 mX0_fewest (0, 0) 17 [some (.ref lo), some (.int kn), some (.int ak), some (.int (nI k)), o4] [] S I L R (KQ X (PureR (some (.int (few (I (lo + 1)) (I (lo + 2)) m kn ak))) S I L R)) := by
      refine for_up (P := fun k => ∀ (o4 : Option Value), (fwF (I (lo + 1)) (I (lo + 2)) m kn ak (12 - k) k = fwF (I (lo + 1)) (I (lo + 2)) m kn ak 12 0) → SW X 2 mX0_fewest (0, 0) 17 [some (.ref lo), some (.int kn), some (.int ak), some (.int (nI k)), o4] [] S I L R (KQ X (PureR (some (.int (few (I (lo + 1)) (I (lo + 2)) m kn ak))) S I L R))) 12 ?_ ?_
      · intro o4 hi
        refine s_iload_n (tb_ok aX0_fewest_0 13 rfl) rfl ?_
        refine s_bipush (v := nI 12) (tb_ok aX0_fewest_0 14 rfl) (by decide) ?_
        refine s_icmp_ge (tgt := 70) (tb_ok aX0_fewest_0 15 rfl) (by decide) (fun c20 => ?_) (fun c20 => ?_)
        · refine s_iconst (v := 1) (tb_ok aX0_fewest_1 23 rfl) (by decide) ?_
          refine s_iload_n (tb_ok aX0_fewest_2 0 rfl) rfl ?_
          refine s_ishl (tb_ok aX0_fewest_2 1 rfl) ?_
          refine s_iret (tb_ok aX0_fewest_2 2 rfl) rfl ?_
          exact pureE (by rw [few, if_neg (fun h => h c10), ← hi]; rfl)
        · simp (disch := omega) only [nI_ltI, nI_leI, nI_eq] at c20
          omega
      · intro k hk ih o4 hi
        refine s_iload_n (tb_ok aX0_fewest_0 13 rfl) rfl ?_
        refine s_bipush (v := nI 12) (tb_ok aX0_fewest_0 14 rfl) (by decide) ?_
        refine s_icmp_ge (tgt := 70) (tb_ok aX0_fewest_0 15 rfl) (by decide) (fun c20 => ?_) (fun c20 => ?_)
        · simp (disch := omega) only [nI_ltI, nI_leI, nI_eq] at c20
          omega
        · refine s_iload_n (tb_ok aX0_fewest_0 16 rfl) rfl ?_
          refine s_iload_n (tb_ok aX0_fewest_0 17 rfl) rfl ?_
          refine s_ishr (tb_ok aX0_fewest_0 18 rfl) ?_
          refine s_iconst (v := 1) (tb_ok aX0_fewest_0 19 rfl) (by decide) ?_
          refine s_iand (tb_ok aX0_fewest_0 20 rfl) ?_
          refine s_if_ne (tgt := 35) (tb_ok aX0_fewest_0 21 rfl) (by decide) (fun c28 => ?_) (fun c28 => ?_)
          · refine s_iconst (v := 0) (tb_ok aX0_fewest_1 0 rfl) (by decide) ?_
            refine s_istore (ls' := [some (.ref lo), some (.int kn), some (.int ak), some (.int (nI k)), some (.int (0))]) (tb_ok aX0_fewest_1 1 rfl) rfl rfl ?_
            refine s_iload (tb_ok aX0_fewest_1 2 rfl) rfl ?_
            refine s_if_eq (tgt := 64) (tb_ok aX0_fewest_1 3 rfl) (by decide) (fun c40 => ?_) (fun c40 => ?_)
            · refine s_iinc (v := nI (k + 1)) (ls' := [some (.ref lo), some (.int kn), some (.int ak), some (.int (nI (k + 1))), some (.int (0))]) (tb_ok aX0_fewest_1 21 rfl) rfl (nI_1 _) rfl rfl ?_
              refine s_goto (tgt := 17) (tb_ok aX0_fewest_1 22 rfl) (by decide) ?_
              refine ih _ ?_
              rw [← hi, show 12 - k = 12 - (k + 1) + 1 by omega, fwF, if_neg (by simp_all)]
            · refine s_aload_n (tb_ok aX0_fewest_1 4 rfl) rfl ?_
              refine s_iload_n (tb_ok aX0_fewest_1 5 rfl) rfl ?_
              refine s_iconst (v := 1) (tb_ok aX0_fewest_1 6 rfl) (by decide) ?_
              refine s_iload_n (tb_ok aX0_fewest_1 7 rfl) rfl ?_
              refine s_ishl (tb_ok aX0_fewest_1 8 rfl) ?_
              refine s_ior (tb_ok aX0_fewest_1 9 rfl) ?_
              refine s_iconst (v := -1) (tb_ok aX0_fewest_1 10 rfl) (by decide) ?_
              refine s_cVp (as := [_, .int (-1)]) (tb_ok aX0_fewest_1 11 rfl) v_RX0_29 (E_closure hL hm hm10 _ _) (by decide) h1 rfl rfl rfl rfl (Nat.le_of_ble_eq_true rfl) (by decide) ?_
              refine s_iload_n (tb_ok aX0_fewest_1 12 rfl) rfl ?_
              refine s_ishr (tb_ok aX0_fewest_1 13 rfl) ?_
              refine s_iconst (v := 1) (tb_ok aX0_fewest_1 14 rfl) (by decide) ?_
              refine s_iand (tb_ok aX0_fewest_1 15 rfl) ?_
              refine s_if_eq (tgt := 64) (tb_ok aX0_fewest_1 16 rfl) (by decide) (fun c57 => ?_) (fun c57 => ?_)
              · refine s_iinc (v := nI (k + 1)) (ls' := [some (.ref lo), some (.int kn), some (.int ak), some (.int (nI (k + 1))), some (.int (0))]) (tb_ok aX0_fewest_1 21 rfl) rfl (nI_1 _) rfl rfl ?_
                refine s_goto (tgt := 17) (tb_ok aX0_fewest_1 22 rfl) (by decide) ?_
                refine ih _ ?_
                rw [← hi, show 12 - k = 12 - (k + 1) + 1 by omega, fwF, if_neg (by simp_all)]
              · refine s_iconst (v := 1) (tb_ok aX0_fewest_1 17 rfl) (by decide) ?_
                refine s_iload_n (tb_ok aX0_fewest_1 18 rfl) rfl ?_
                refine s_ishl (tb_ok aX0_fewest_1 19 rfl) ?_
                refine s_iret (tb_ok aX0_fewest_1 20 rfl) rfl ?_
                exact pureE (by rw [few, if_neg (fun h => h c10), ← hi, show 12 - k = 12 - (k + 1) + 1 by omega, fwF, if_pos (by simp_all)])
          · refine s_iconst (v := 1) (tb_ok aX0_fewest_0 22 rfl) (by decide) ?_
            refine s_goto (tgt := 36) (tb_ok aX0_fewest_0 23 rfl) (by decide) ?_
            refine s_istore (ls' := [some (.ref lo), some (.int kn), some (.int ak), some (.int (nI k)), some (.int (1))]) (tb_ok aX0_fewest_1 1 rfl) rfl rfl ?_
            refine s_iload (tb_ok aX0_fewest_1 2 rfl) rfl ?_
            refine s_if_eq (tgt := 64) (tb_ok aX0_fewest_1 3 rfl) (by decide) (fun c40 => ?_) (fun c40 => ?_)
            · refine s_iinc (v := nI (k + 1)) (ls' := [some (.ref lo), some (.int kn), some (.int ak), some (.int (nI (k + 1))), some (.int (1))]) (tb_ok aX0_fewest_1 21 rfl) rfl (nI_1 _) rfl rfl ?_
              refine s_goto (tgt := 17) (tb_ok aX0_fewest_1 22 rfl) (by decide) ?_
              refine ih _ ?_
              rw [← hi, show 12 - k = 12 - (k + 1) + 1 by omega, fwF, if_neg (by simp_all)]
            · refine s_aload_n (tb_ok aX0_fewest_1 4 rfl) rfl ?_
              refine s_iload_n (tb_ok aX0_fewest_1 5 rfl) rfl ?_
              refine s_iconst (v := 1) (tb_ok aX0_fewest_1 6 rfl) (by decide) ?_
              refine s_iload_n (tb_ok aX0_fewest_1 7 rfl) rfl ?_
              refine s_ishl (tb_ok aX0_fewest_1 8 rfl) ?_
              refine s_ior (tb_ok aX0_fewest_1 9 rfl) ?_
              refine s_iconst (v := -1) (tb_ok aX0_fewest_1 10 rfl) (by decide) ?_
              refine s_cVp (as := [_, .int (-1)]) (tb_ok aX0_fewest_1 11 rfl) v_RX0_29 (E_closure hL hm hm10 _ _) (by decide) h1 rfl rfl rfl rfl (Nat.le_of_ble_eq_true rfl) (by decide) ?_
              refine s_iload_n (tb_ok aX0_fewest_1 12 rfl) rfl ?_
              refine s_ishr (tb_ok aX0_fewest_1 13 rfl) ?_
              refine s_iconst (v := 1) (tb_ok aX0_fewest_1 14 rfl) (by decide) ?_
              refine s_iand (tb_ok aX0_fewest_1 15 rfl) ?_
              refine s_if_eq (tgt := 64) (tb_ok aX0_fewest_1 16 rfl) (by decide) (fun c57 => ?_) (fun c57 => ?_)
              · refine s_iinc (v := nI (k + 1)) (ls' := [some (.ref lo), some (.int kn), some (.int ak), some (.int (nI (k + 1))), some (.int (1))]) (tb_ok aX0_fewest_1 21 rfl) rfl (nI_1 _) rfl rfl ?_
                refine s_goto (tgt := 17) (tb_ok aX0_fewest_1 22 rfl) (by decide) ?_
                refine ih _ ?_
                rw [← hi, show 12 - k = 12 - (k + 1) + 1 by omega, fwF, if_neg (by simp_all)]
              · refine s_iconst (v := 1) (tb_ok aX0_fewest_1 17 rfl) (by decide) ?_
                refine s_iload_n (tb_ok aX0_fewest_1 18 rfl) rfl ?_
                refine s_ishl (tb_ok aX0_fewest_1 19 rfl) ?_
                refine s_iret (tb_ok aX0_fewest_1 20 rfl) rfl ?_
                exact pureE (by rw [few, if_neg (fun h => h c10), ← hi, show 12 - k = 12 - (k + 1) + 1 by omega, fwF, if_pos (by simp_all)])
    exact loop 0 (Nat.zero_le _) _ rfl
  · refine s_iconst (v := 0) (tb_ok aX0_fewest_0 9 rfl) (by decide) ?_
    refine s_iret (tb_ok aX0_fewest_0 10 rfl) rfl ?_
    exact pureE (by rw [few, if_pos c10])

set_option maxRecDepth 100000 in
set_option maxHeartbeats 4000000 in
theorem E_missed {X : En} {S : Sh} {I : FI} {L : FL} {R : FR} {lo m : Nat} (hL : isLore S R lo) (hm : I lo 3 = nI m) (hm10 : m ≤ 10) (kn : Int32) : Ev X 2 mX0_missed (0, 0) [.ref lo, .int kn] S I L R (PureR (some (.int (msF (I (lo + 1)) (I (lo + 2)) m kn m).2)) S I L R) := by
  obtain ⟨h1, h2, h3, h4, h5, h6, h7⟩ := id hL
  have loop : ∀ k, k ≤ m → ∀ (o5 : Option Value), SW X 2 mX0_missed (0, 0) 15 [some (.ref lo), some (.int kn), some (.int (msF (I (lo + 1)) (I (lo + 2)) m kn k).1), some (.int (msF (I (lo + 1)) (I (lo + 2)) m kn k).2), some (.int (nI k)), o5] [] S I L R (KQ X (PureR (some (.int (msF (I (lo + 1)) (I (lo + 2)) m kn m).2)) S I L R)) := by
    refine for_up (P := fun k => ∀ (o5 : Option Value), SW X 2 mX0_missed (0, 0) 15 [some (.ref lo), some (.int kn), some (.int (msF (I (lo + 1)) (I (lo + 2)) m kn k).1), some (.int (msF (I (lo + 1)) (I (lo + 2)) m kn k).2), some (.int (nI k)), o5] [] S I L R (KQ X (PureR (some (.int (msF (I (lo + 1)) (I (lo + 2)) m kn m).2)) S I L R))) m ?_ ?_
    · intro o5 
      refine s_iload (tb_ok aX0_missed_0 10 rfl) rfl ?_
      refine s_aload_n (tb_ok aX0_missed_0 11 rfl) rfl ?_
      refine s_getI (x := (nI m)) (tb_ok aX0_missed_0 12 rfl) f_RX0_21 h1 rfl hm ?_
      refine s_icmp_ge (tgt := 61) (tb_ok aX0_missed_0 13 rfl) (by decide) (fun c21 => ?_) (fun c21 => ?_)
      · refine s_iload_n (tb_ok aX0_missed_1 8 rfl) rfl ?_
        refine s_iret (tb_ok aX0_missed_1 9 rfl) rfl ?_
        exact pureE (rfl)
      · simp (disch := omega) only [nI_ltI, nI_leI, nI_eq] at c21
        omega
    · intro k hk ih o5 
      refine s_iload (tb_ok aX0_missed_0 10 rfl) rfl ?_
      refine s_aload_n (tb_ok aX0_missed_0 11 rfl) rfl ?_
      refine s_getI (x := (nI m)) (tb_ok aX0_missed_0 12 rfl) f_RX0_21 h1 rfl hm ?_
      refine s_icmp_ge (tgt := 61) (tb_ok aX0_missed_0 13 rfl) (by decide) (fun c21 => ?_) (fun c21 => ?_)
      · simp (disch := omega) only [nI_ltI, nI_leI, nI_eq] at c21
        omega
      · refine s_iload (tb_ok aX0_missed_0 14 rfl) rfl ?_
        refine s_bipush (v := nI 10) (tb_ok aX0_missed_0 15 rfl) (by decide) ?_
        refine s_icmp_ge (tgt := 61) (tb_ok aX0_missed_0 16 rfl) (by decide) (fun c28 => ?_) (fun c28 => ?_)
        · simp (disch := omega) only [nI_ltI, nI_leI, nI_eq] at c28
          omega
        · refine s_aload_n (tb_ok aX0_missed_0 17 rfl) rfl ?_
          refine s_iload_n (tb_ok aX0_missed_0 18 rfl) rfl ?_
          refine s_iload (tb_ok aX0_missed_0 19 rfl) rfl ?_
          refine s_cVp (as := [.int kn, .int (nI k)]) (tb_ok aX0_missed_0 20 rfl) v_RX0_29 (E_closure hL hm hm10 _ _) (by decide) h1 rfl rfl rfl rfl (Nat.le_of_ble_eq_true rfl) (by decide) ?_
          refine s_cSp (as := [_]) (tb_ok aX0_missed_0 21 rfl) v_RX0_32 (E_bc _) (by decide) rfl rfl (Nat.le_of_ble_eq_true rfl) ?_
          refine s_name (fun x1 ex1 => ?_)
          refine s_istore (ls' := [some (.ref lo), some (.int kn), some (.int (msF (I (lo + 1)) (I (lo + 2)) m kn k).1), some (.int (msF (I (lo + 1)) (I (lo + 2)) m kn k).2), some (.int (nI k)), some (.int x1)]) (tb_ok aX0_missed_0 22 rfl) rfl rfl ?_
          refine s_iload (tb_ok aX0_missed_0 23 rfl) rfl ?_
          refine s_iload_n (tb_ok aX0_missed_1 0 rfl) rfl ?_
          refine s_icmp_ge (tgt := 55) (tb_ok aX0_missed_1 1 rfl) (by decide) (fun c46 => ?_) (fun c46 => ?_)
          · refine s_iinc (v := nI (k + 1)) (ls' := [some (.ref lo), some (.int kn), some (.int (msF (I (lo + 1)) (I (lo + 2)) m kn k).1), some (.int (msF (I (lo + 1)) (I (lo + 2)) m kn k).2), some (.int (nI (k + 1))), some (.int x1)]) (tb_ok aX0_missed_1 6 rfl) rfl (nI_1 _) rfl rfl ?_
            refine s_goto (tgt := 15) (tb_ok aX0_missed_1 7 rfl) (by decide) ?_
            refine s_ls ?_ (ih (some (.int x1)))
            rw [msF, ← ex1]
            first | rw [if_pos (Int32.not_le.mp c46)] | rw [if_neg (Int32.not_lt.mpr c46)]
          · refine s_iload (tb_ok aX0_missed_1 2 rfl) rfl ?_
            refine s_istore_n (ls' := [some (.ref lo), some (.int kn), some (.int x1), some (.int (msF (I (lo + 1)) (I (lo + 2)) m kn k).2), some (.int (nI k)), some (.int x1)]) (tb_ok aX0_missed_1 3 rfl) rfl rfl ?_
            refine s_iload (tb_ok aX0_missed_1 4 rfl) rfl ?_
            refine s_istore_n (ls' := [some (.ref lo), some (.int kn), some (.int x1), some (.int (nI k)), some (.int (nI k)), some (.int x1)]) (tb_ok aX0_missed_1 5 rfl) rfl rfl ?_
            refine s_iinc (v := nI (k + 1)) (ls' := [some (.ref lo), some (.int kn), some (.int x1), some (.int (nI k)), some (.int (nI (k + 1))), some (.int x1)]) (tb_ok aX0_missed_1 6 rfl) rfl (nI_1 _) rfl rfl ?_
            refine s_goto (tgt := 15) (tb_ok aX0_missed_1 7 rfl) (by decide) ?_
            refine s_ls ?_ (ih (some (.int x1)))
            rw [msF, ← ex1]
            first | rw [if_pos (Int32.not_le.mp c46)] | rw [if_neg (Int32.not_lt.mpr c46)]
  refine ev_of (by decide +kernel) rfl ?_
  show SW X _ _ _ 0 [some (.ref lo), some (.int kn), none, none, none, none] [] S I L R _
  refine s_aload_n (tb_ok aX0_missed_0 0 rfl) rfl ?_
  refine s_iload_n (tb_ok aX0_missed_0 1 rfl) rfl ?_
  refine s_iconst (v := -1) (tb_ok aX0_missed_0 2 rfl) (by decide) ?_
  refine s_cVp (as := [.int kn, .int (-1)]) (tb_ok aX0_missed_0 3 rfl) v_RX0_29 (E_closure hL hm hm10 _ _) (by decide) h1 rfl rfl rfl rfl (Nat.le_of_ble_eq_true rfl) (by decide) ?_
  refine s_cSp (as := [_]) (tb_ok aX0_missed_0 4 rfl) v_RX0_32 (E_bc _) (by decide) rfl rfl (Nat.le_of_ble_eq_true rfl) ?_
  refine s_name (fun x1 ex1 => ?_)
  refine s_istore_n (ls' := [some (.ref lo), some (.int kn), some (.int x1), none, none, none]) (tb_ok aX0_missed_0 5 rfl) rfl rfl ?_
  refine s_iconst (v := -1) (tb_ok aX0_missed_0 6 rfl) (by decide) ?_
  refine s_istore_n (ls' := [some (.ref lo), some (.int kn), some (.int x1), some (.int (-1)), none, none]) (tb_ok aX0_missed_0 7 rfl) rfl rfl ?_
  refine s_iconst (v := nI 0) (tb_ok aX0_missed_0 8 rfl) (by decide) ?_
  refine s_istore (ls' := [some (.ref lo), some (.int kn), some (.int x1), some (.int (-1)), some (.int (nI 0)), none]) (tb_ok aX0_missed_0 9 rfl) rfl rfl ?_
  rw [ex1]
  exact loop 0 (Nat.zero_le _) _

set_option maxRecDepth 100000 in
set_option maxHeartbeats 4000000 in
theorem E_leave {X : En} {S : Sh} {I : FI} {L : FL} {R : FR} {lo m : Nat} (hL : isLore S R lo) (x : Int32) : Ev X 0 mX0_leave (0, 0) [.ref lo, .int x] S I L R (PureR (none) S (up2 I lo 3 x) L R) := by
  obtain ⟨h1, h2, h3, h4, h5, h6, h7⟩ := id hL
  refine ev_of (by decide +kernel) rfl ?_
  show SW X _ _ _ 0 [some (.ref lo), some (.int x)] [] S I L R _
  refine s_aload_n (tb_ok aX0_leave_0 0 rfl) rfl ?_
  refine s_iload_n (tb_ok aX0_leave_0 1 rfl) rfl ?_
  refine s_putI (tb_ok aX0_leave_0 2 rfl) f_RX0_21 h1 rfl ?_
  refine s_vret (tb_ok aX0_leave_0 3 rfl) rfl ?_
  exact pureR

set_option maxRecDepth 100000 in
set_option maxHeartbeats 4000000 in
theorem E_has {X : En} {S : Sh} {I : FI} {L : FL} {R : FR} {lo m : Nat} (hL : isLore S R lo) (hm : I lo 3 = nI m) (hm10 : m ≤ 10) (x : Int32) : Ev X 0 mX0_has (0, 0) [.ref lo, .int x] S I L R (PureR (some (.int (bI (¬ x < 0 ∧ x < nI m ∧ x < nI 10)))) S I L R) := by
  obtain ⟨h1, h2, h3, h4, h5, h6, h7⟩ := id hL
  refine ev_of (by decide +kernel) rfl ?_
  show SW X _ _ _ 0 [some (.ref lo), some (.int x)] [] S I L R _
  refine s_iload_n (tb_ok aX0_has_0 0 rfl) rfl ?_
  refine s_if_lt (tgt := 22) (tb_ok aX0_has_0 1 rfl) (by decide) (fun c1 => ?_) (fun c1 => ?_)
  · refine s_iconst (v := 0) (tb_ok aX0_has_0 11 rfl) (by decide) ?_
    refine s_zret (tb_ok aX0_has_0 12 rfl) rfl ?_ ?_
    first | exact Or.inl rfl | exact Or.inr rfl
    exact pureE (congrArg (fun z => some (Value.int z)) (bI_f (by simp only [Int32.lt_iff_toInt_lt, Int32.le_iff_toInt_le] at *; omega)).symm)
  · refine s_iload_n (tb_ok aX0_has_0 2 rfl) rfl ?_
    refine s_aload_n (tb_ok aX0_has_0 3 rfl) rfl ?_
    refine s_getI (x := (nI m)) (tb_ok aX0_has_0 4 rfl) f_RX0_21 h1 rfl hm ?_
    refine s_icmp_ge (tgt := 22) (tb_ok aX0_has_0 5 rfl) (by decide) (fun c9 => ?_) (fun c9 => ?_)
    · refine s_iconst (v := 0) (tb_ok aX0_has_0 11 rfl) (by decide) ?_
      refine s_zret (tb_ok aX0_has_0 12 rfl) rfl ?_ ?_
      first | exact Or.inl rfl | exact Or.inr rfl
      exact pureE (congrArg (fun z => some (Value.int z)) (bI_f (by simp only [Int32.lt_iff_toInt_lt, Int32.le_iff_toInt_le] at *; omega)).symm)
    · refine s_iload_n (tb_ok aX0_has_0 6 rfl) rfl ?_
      refine s_bipush (v := nI 10) (tb_ok aX0_has_0 7 rfl) (by decide) ?_
      refine s_icmp_ge (tgt := 22) (tb_ok aX0_has_0 8 rfl) (by decide) (fun c15 => ?_) (fun c15 => ?_)
      · refine s_iconst (v := 0) (tb_ok aX0_has_0 11 rfl) (by decide) ?_
        refine s_zret (tb_ok aX0_has_0 12 rfl) rfl ?_ ?_
        first | exact Or.inl rfl | exact Or.inr rfl
        exact pureE (congrArg (fun z => some (Value.int z)) (bI_f (by simp only [Int32.lt_iff_toInt_lt, Int32.le_iff_toInt_le] at *; omega)).symm)
      · refine s_iconst (v := 1) (tb_ok aX0_has_0 9 rfl) (by decide) ?_
        refine s_goto (tgt := 23) (tb_ok aX0_has_0 10 rfl) (by decide) ?_
        refine s_zret (tb_ok aX0_has_0 12 rfl) rfl ?_ ?_
        first | exact Or.inl rfl | exact Or.inr rfl
        exact pureE (congrArg (fun z => some (Value.int z)) (bI_t (by simp only [Int32.lt_iff_toInt_lt, Int32.le_iff_toInt_le] at *; omega)).symm)

set_option maxRecDepth 100000 in
set_option maxHeartbeats 4000000 in
theorem E_add {X : En} {S : Sh} {I : FI} {L : FL} {R : FR} {lo m : Nat} (hL : isLore S R lo) (hm : I lo 3 = nI m) (hm10 : m < 10) (fr fc : Int32) : Ev X 0 mX0_add (0, 0) [.ref lo, .int fr, .int fc] S I L R (PureR (some (.int (nI m))) S (up2 (up2 (up2 I (lo + 1) m fr) (lo + 2) m fc) lo 3 (nI (m + 1))) L R) := by
  obtain ⟨h1, h2, h3, h4, h5, h6, h7⟩ := id hL
  refine ev_of (by decide +kernel) rfl ?_
  show SW X _ _ _ 0 [some (.ref lo), some (.int fr), some (.int fc)] [] S I L R _
  refine s_aload_n (tb_ok aX0_add_0 0 rfl) rfl ?_
  refine s_getI (x := (nI m)) (tb_ok aX0_add_0 1 rfl) f_RX0_21 h1 rfl (by simp [up2, hm]) ?_
  refine s_if_lt (tgt := 16) (tb_ok aX0_add_0 2 rfl) (by decide) (fun c4 => ?_) (fun c4 => ?_)
  · exact absurd c4 (nI_pos (by omega))
  · refine s_aload_n (tb_ok aX0_add_0 3 rfl) rfl ?_
    refine s_getI (x := (nI m)) (tb_ok aX0_add_0 4 rfl) f_RX0_21 h1 rfl (by simp [up2, hm]) ?_
    refine s_bipush (v := nI 10) (tb_ok aX0_add_0 5 rfl) (by decide) ?_
    refine s_icmp_lt (tgt := 19) (tb_ok aX0_add_0 6 rfl) (by decide) (fun c13 => ?_) (fun c13 => ?_)
    · refine s_aload_n (tb_ok aX0_add_0 9 rfl) rfl ?_
      refine s_getR (r := (lo + 1)) (tb_ok aX0_add_0 10 rfl) f_RX0_9 h1 rfl h2 ?_
      refine s_aload_n (tb_ok aX0_add_0 11 rfl) rfl ?_
      refine s_getI (x := (nI m)) (tb_ok aX0_add_0 12 rfl) f_RX0_21 h1 rfl (by simp [up2, hm]) ?_
      refine s_iload_n (tb_ok aX0_add_0 13 rfl) rfl ?_
      refine s_iastN (tb_ok aX0_add_0 14 rfl) h3 (by omega) (by decide) ?_
      refine s_aload_n (tb_ok aX0_add_0 15 rfl) rfl ?_
      refine s_getR (r := (lo + 2)) (tb_ok aX0_add_0 16 rfl) f_RX0_15 h1 rfl h4 ?_
      refine s_aload_n (tb_ok aX0_add_0 17 rfl) rfl ?_
      refine s_getI (x := (nI m)) (tb_ok aX0_add_0 18 rfl) f_RX0_21 h1 rfl (by simp [up2, hm]) ?_
      refine s_iload_n (tb_ok aX0_add_0 19 rfl) rfl ?_
      refine s_iastN (tb_ok aX0_add_0 20 rfl) h5 (by omega) (by decide) ?_
      refine s_aload_n (tb_ok aX0_add_0 21 rfl) rfl ?_
      refine s_dup (tb_ok aX0_add_0 22 rfl) rfl ?_
      refine s_getI (x := (nI m)) (tb_ok aX0_add_0 23 rfl) f_RX0_21 h1 rfl (by simp [up2, hm]) ?_
      refine s_iconst (v := 1) (tb_ok aX0_add_1 0 rfl) (by decide) ?_
      refine s_iadd (tb_ok aX0_add_1 1 rfl) ?_
      refine s_topi (nI_1 m) ?_
      refine s_putI (tb_ok aX0_add_1 2 rfl) f_RX0_21 h1 rfl ?_
      refine s_aload_n (tb_ok aX0_add_1 3 rfl) rfl ?_
      refine s_getI (x := (nI (m + 1))) (tb_ok aX0_add_1 4 rfl) f_RX0_21 h1 rfl (by simp [up2]) ?_
      refine s_iconst (v := 1) (tb_ok aX0_add_1 5 rfl) (by decide) ?_
      refine s_isub (tb_ok aX0_add_1 6 rfl) ?_
      refine s_iret (tb_ok aX0_add_1 7 rfl) rfl ?_
      refine pureE ?_
      rw [nI_pred]
    · simp (disch := omega) only [nI_ltI, nI_leI, nI_eq] at c13
      omega

set_option maxRecDepth 100000 in
set_option maxHeartbeats 4000000 in
theorem E_addF {X : En} {S : Sh} {I : FI} {L : FL} {R : FR} {lo m : Nat} (hL : isLore S R lo) (hm : I lo 3 = nI 10) (fr fc : Int32) : Ev X 0 mX0_add (0, 0) [.ref lo, .int fr, .int fc] S I L R (PureR (some (.int (-4))) S I L R) := by
  obtain ⟨h1, h2, h3, h4, h5, h6, h7⟩ := id hL
  refine ev_of (by decide +kernel) rfl ?_
  show SW X _ _ _ 0 [some (.ref lo), some (.int fr), some (.int fc)] [] S I L R _
  refine s_aload_n (tb_ok aX0_add_0 0 rfl) rfl ?_
  refine s_getI (x := (nI 10)) (tb_ok aX0_add_0 1 rfl) f_RX0_21 h1 rfl hm ?_
  refine s_if_lt (tgt := 16) (tb_ok aX0_add_0 2 rfl) (by decide) (fun c4 => ?_) (fun c4 => ?_)
  · exact absurd c4 (nI_pos (by omega))
  · refine s_aload_n (tb_ok aX0_add_0 3 rfl) rfl ?_
    refine s_getI (x := (nI 10)) (tb_ok aX0_add_0 4 rfl) f_RX0_21 h1 rfl hm ?_
    refine s_bipush (v := nI 10) (tb_ok aX0_add_0 5 rfl) (by decide) ?_
    refine s_icmp_lt (tgt := 19) (tb_ok aX0_add_0 6 rfl) (by decide) (fun c13 => ?_) (fun c13 => ?_)
    · simp (disch := omega) only [nI_ltI, nI_leI, nI_eq] at c13
      omega
    · refine s_bipush (v := -4) (tb_ok aX0_add_0 7 rfl) (by decide) ?_
      refine s_iret (tb_ok aX0_add_0 8 rfl) rfl ?_
      exact pureR

set_option maxRecDepth 100000 in
set_option maxHeartbeats 4000000 in
theorem E_same {X : En} {S : Sh} {I : FI} {L : FL} {R : FR} {lo m : Nat} (hL : isLore S R lo) (hm : I lo 3 = nI m) (hm10 : m ≤ 10) : Ev X 2 mX0_same (0, 0) [.ref lo] S I L R (PureR (some (.int (smT ((flO I (lo + 3) (cl1 (I (lo + 1)) (I (lo + 2)) m) 12) (lo + 3)) 12))) S (flO I (lo + 3) (cl1 (I (lo + 1)) (I (lo + 2)) m) 12) L R) := by
  obtain ⟨h1, h2, h3, h4, h5, h6, h7⟩ := id hL
  have loop2 : ∀ k, k ≤ 12 → ∀ (o3 : Option Value), SW X 2 mX0_same (0, 0) 32 [some (.ref lo), some (.int (smT ((flO I (lo + 3) (cl1 (I (lo + 1)) (I (lo + 2)) m) 12) (lo + 3)) k)), some (.int (nI k)), o3] [] S (flO I (lo + 3) (cl1 (I (lo + 1)) (I (lo + 2)) m) 12) L R (KQ X (PureR (some (.int (smT ((flO I (lo + 3) (cl1 (I (lo + 1)) (I (lo + 2)) m) 12) (lo + 3)) 12))) S (flO I (lo + 3) (cl1 (I (lo + 1)) (I (lo + 2)) m) 12) L R)) := by
    refine for_up (P := fun k => ∀ (o3 : Option Value), SW X 2 mX0_same (0, 0) 32 [some (.ref lo), some (.int (smT ((flO I (lo + 3) (cl1 (I (lo + 1)) (I (lo + 2)) m) 12) (lo + 3)) k)), some (.int (nI k)), o3] [] S (flO I (lo + 3) (cl1 (I (lo + 1)) (I (lo + 2)) m) 12) L R (KQ X (PureR (some (.int (smT ((flO I (lo + 3) (cl1 (I (lo + 1)) (I (lo + 2)) m) 12) (lo + 3)) 12))) S (flO I (lo + 3) (cl1 (I (lo + 1)) (I (lo + 2)) m) 12) L R))) 12 ?_ ?_
    · intro o3 
      refine s_iload_n (tb_ok aX0_same_0 21 rfl) rfl ?_
      refine s_bipush (v := nI 12) (tb_ok aX0_same_0 22 rfl) (by decide) ?_
      refine s_icmp_ge (tgt := 79) (tb_ok aX0_same_0 23 rfl) (by decide) (fun c35 => ?_) (fun c35 => ?_)
      · refine s_iload_n (tb_ok aX0_same_2 3 rfl) rfl ?_
        refine s_iret (tb_ok aX0_same_2 4 rfl) rfl ?_
        exact pureE (rfl)
      · simp (disch := omega) only [nI_ltI, nI_leI, nI_eq] at c35
        omega
    · intro k hk ih o3 
      refine s_iload_n (tb_ok aX0_same_0 21 rfl) rfl ?_
      refine s_bipush (v := nI 12) (tb_ok aX0_same_0 22 rfl) (by decide) ?_
      refine s_icmp_ge (tgt := 79) (tb_ok aX0_same_0 23 rfl) (by decide) (fun c35 => ?_) (fun c35 => ?_)
      · simp (disch := omega) only [nI_ltI, nI_leI, nI_eq] at c35
        omega
      · refine s_iconst (v := nI 0) (tb_ok aX0_same_1 0 rfl) (by decide) ?_
        refine s_istore_n (ls' := [some (.ref lo), some (.int (smT ((flO I (lo + 3) (cl1 (I (lo + 1)) (I (lo + 2)) m) 12) (lo + 3)) k)), some (.int (nI k)), some (.int (nI 0))]) (tb_ok aX0_same_1 1 rfl) rfl rfl ?_
        obtain ⟨f, rfl⟩ : ∃ f, f = k := ⟨_, rfl⟩
        have loop3 : ∀ k, k ≤ f → SW X 2 mX0_same (0, 0) 40 [some (.ref lo), some (.int (smT ((flO I (lo + 3) (cl1 (I (lo + 1)) (I (lo + 2)) m) 12) (lo + 3)) f + smB ((flO I (lo + 3) (cl1 (I (lo + 1)) (I (lo + 2)) m) 12) (lo + 3)) f k)), some (.int (nI f)), some (.int (nI k))] [] S (flO I (lo + 3) (cl1 (I (lo + 1)) (I (lo + 2)) m) 12) L R (KQ X (PureR (some (.int (smT ((flO I (lo + 3) (cl1 (I (lo + 1)) (I (lo + 2)) m) 12) (lo + 3)) 12))) S (flO I (lo + 3) (cl1 (I (lo + 1)) (I (lo + 2)) m) 12) L R)) := by
          refine for_up (P := fun k => SW X 2 mX0_same (0, 0) 40 [some (.ref lo), some (.int (smT ((flO I (lo + 3) (cl1 (I (lo + 1)) (I (lo + 2)) m) 12) (lo + 3)) f + smB ((flO I (lo + 3) (cl1 (I (lo + 1)) (I (lo + 2)) m) 12) (lo + 3)) f k)), some (.int (nI f)), some (.int (nI k))] [] S (flO I (lo + 3) (cl1 (I (lo + 1)) (I (lo + 2)) m) 12) L R (KQ X (PureR (some (.int (smT ((flO I (lo + 3) (cl1 (I (lo + 1)) (I (lo + 2)) m) 12) (lo + 3)) 12))) S (flO I (lo + 3) (cl1 (I (lo + 1)) (I (lo + 2)) m) 12) L R))) f ?_ ?_
          · refine s_iload_n (tb_ok aX0_same_1 2 rfl) rfl ?_
            refine s_iload_n (tb_ok aX0_same_1 3 rfl) rfl ?_
            refine s_icmp_ge (tgt := 73) (tb_ok aX0_same_1 4 rfl) (by decide) (fun c42 => ?_) (fun c42 => ?_)
            · refine s_iinc (v := nI (f + 1)) (ls' := [some (.ref lo), some (.int (smT ((flO I (lo + 3) (cl1 (I (lo + 1)) (I (lo + 2)) m) 12) (lo + 3)) f + smB ((flO I (lo + 3) (cl1 (I (lo + 1)) (I (lo + 2)) m) 12) (lo + 3)) f f)), some (.int (nI (f + 1))), some (.int (nI f))]) (tb_ok aX0_same_2 1 rfl) rfl (nI_1 _) rfl rfl ?_
              refine s_goto (tgt := 32) (tb_ok aX0_same_2 2 rfl) (by decide) ?_
              exact ih (some (.int (nI f)))
            · simp (disch := omega) only [nI_ltI, nI_leI, nI_eq] at c42
              omega
          · intro k hk ih2
            refine s_iload_n (tb_ok aX0_same_1 2 rfl) rfl ?_
            refine s_iload_n (tb_ok aX0_same_1 3 rfl) rfl ?_
            refine s_icmp_ge (tgt := 73) (tb_ok aX0_same_1 4 rfl) (by decide) (fun c42 => ?_) (fun c42 => ?_)
            · simp (disch := omega) only [nI_ltI, nI_leI, nI_eq] at c42
              omega
            · refine s_iload_n (tb_ok aX0_same_1 5 rfl) rfl ?_
              refine s_aload_n (tb_ok aX0_same_1 6 rfl) rfl ?_
              refine s_getR (r := (lo + 3)) (tb_ok aX0_same_1 7 rfl) f_RX0_18 h1 rfl h6 ?_
              refine s_iload_n (tb_ok aX0_same_1 8 rfl) rfl ?_
              refine s_ialdN (tb_ok aX0_same_1 9 rfl) h7 (by omega) (by decide) ?_
              refine s_iload_n (tb_ok aX0_same_1 10 rfl) rfl ?_
              refine s_ishr (tb_ok aX0_same_1 11 rfl) ?_
              refine s_aload_n (tb_ok aX0_same_1 12 rfl) rfl ?_
              refine s_getR (r := (lo + 3)) (tb_ok aX0_same_1 13 rfl) f_RX0_18 h1 rfl h6 ?_
              refine s_iload_n (tb_ok aX0_same_1 14 rfl) rfl ?_
              refine s_ialdN (tb_ok aX0_same_1 15 rfl) h7 (by omega) (by decide) ?_
              refine s_iload_n (tb_ok aX0_same_1 16 rfl) rfl ?_
              refine s_ishr (tb_ok aX0_same_1 17 rfl) ?_
              refine s_iand (tb_ok aX0_same_1 18 rfl) ?_
              refine s_iconst (v := 1) (tb_ok aX0_same_1 19 rfl) (by decide) ?_
              refine s_iand (tb_ok aX0_same_1 20 rfl) ?_
              refine s_iadd (tb_ok aX0_same_1 21 rfl) ?_
              refine s_name (fun x1 ex1 => ?_)
              refine s_istore_n (ls' := [some (.ref lo), some (.int x1), some (.int (nI f)), some (.int (nI k))]) (tb_ok aX0_same_1 22 rfl) rfl rfl ?_
              refine s_iinc (v := nI (k + 1)) (ls' := [some (.ref lo), some (.int x1), some (.int (nI f)), some (.int (nI (k + 1)))]) (tb_ok aX0_same_1 23 rfl) rfl (nI_1 _) rfl rfl ?_
              refine s_goto (tgt := 40) (tb_ok aX0_same_2 0 rfl) (by decide) ?_
              refine s_ls ?_ ih2
              rw [ex1, smB, Int32.add_assoc]
        refine s_ls ?_ (loop3 0 (Nat.zero_le _))
        simp [smB]
  have loop : ∀ k, k ≤ 12 → ∀ (o2 o3 : Option Value), SW X 2 mX0_same (0, 0) 2 [some (.ref lo), some (.int (nI k)), o2, o3] [] S (flO I (lo + 3) (cl1 (I (lo + 1)) (I (lo + 2)) m) k) L R (KQ X (PureR (some (.int (smT ((flO I (lo + 3) (cl1 (I (lo + 1)) (I (lo + 2)) m) 12) (lo + 3)) 12))) S (flO I (lo + 3) (cl1 (I (lo + 1)) (I (lo + 2)) m) 12) L R)) := by
    refine for_up (P := fun k => ∀ (o2 o3 : Option Value), SW X 2 mX0_same (0, 0) 2 [some (.ref lo), some (.int (nI k)), o2, o3] [] S (flO I (lo + 3) (cl1 (I (lo + 1)) (I (lo + 2)) m) k) L R (KQ X (PureR (some (.int (smT ((flO I (lo + 3) (cl1 (I (lo + 1)) (I (lo + 2)) m) 12) (lo + 3)) 12))) S (flO I (lo + 3) (cl1 (I (lo + 1)) (I (lo + 2)) m) 12) L R))) 12 ?_ ?_
    · intro o2 o3 
      refine s_iload_n (tb_ok aX0_same_0 2 rfl) rfl ?_
      refine s_bipush (v := nI 12) (tb_ok aX0_same_0 3 rfl) (by decide) ?_
      refine s_icmp_ge (tgt := 28) (tb_ok aX0_same_0 4 rfl) (by decide) (fun c5 => ?_) (fun c5 => ?_)
      · refine s_iconst (v := 0) (tb_ok aX0_same_0 17 rfl) (by decide) ?_
        refine s_istore_n (ls' := [some (.ref lo), some (.int (0)), o2, o3]) (tb_ok aX0_same_0 18 rfl) rfl rfl ?_
        refine s_iconst (v := nI 0) (tb_ok aX0_same_0 19 rfl) (by decide) ?_
        refine s_istore_n (ls' := [some (.ref lo), some (.int (0)), some (.int (nI 0)), o3]) (tb_ok aX0_same_0 20 rfl) rfl rfl ?_
        exact loop2 0 (Nat.zero_le _) _
      · simp (disch := omega) only [nI_ltI, nI_leI, nI_eq] at c5
        omega
    · intro k hk ih o2 o3 
      refine s_iload_n (tb_ok aX0_same_0 2 rfl) rfl ?_
      refine s_bipush (v := nI 12) (tb_ok aX0_same_0 3 rfl) (by decide) ?_
      refine s_icmp_ge (tgt := 28) (tb_ok aX0_same_0 4 rfl) (by decide) (fun c5 => ?_) (fun c5 => ?_)
      · simp (disch := omega) only [nI_ltI, nI_leI, nI_eq] at c5
        omega
      · refine s_aload_n (tb_ok aX0_same_0 5 rfl) rfl ?_
        refine s_getR (r := (lo + 3)) (tb_ok aX0_same_0 6 rfl) f_RX0_18 h1 rfl h6 ?_
        refine s_iload_n (tb_ok aX0_same_0 7 rfl) rfl ?_
        refine s_aload_n (tb_ok aX0_same_0 8 rfl) rfl ?_
        refine s_iconst (v := 1) (tb_ok aX0_same_0 9 rfl) (by decide) ?_
        refine s_iload_n (tb_ok aX0_same_0 10 rfl) rfl ?_
        refine s_ishl (tb_ok aX0_same_0 11 rfl) ?_
        refine s_iconst (v := -1) (tb_ok aX0_same_0 12 rfl) (by decide) ?_
        refine s_cVp (as := [_, .int (-1)]) (tb_ok aX0_same_0 13 rfl) v_RX0_29 (E_closure hL (by rw [flO_n (by omega)]; exact hm) hm10 _ _) (by decide) h1 rfl rfl rfl rfl (Nat.le_of_ble_eq_true rfl) (by decide) ?_
        refine s_topi (z := cl1 (I (lo + 1)) (I (lo + 2)) m k) (by rw [flO_n (by omega), flO_n (by omega)]; rfl) ?_
        refine s_iastN (tb_ok aX0_same_0 14 rfl) h7 (by omega) (by decide) ?_
        refine s_iinc (v := nI (k + 1)) (ls' := [some (.ref lo), some (.int (nI (k + 1))), o2, o3]) (tb_ok aX0_same_0 15 rfl) rfl (nI_1 _) rfl rfl ?_
        refine s_goto (tgt := 2) (tb_ok aX0_same_0 16 rfl) (by decide) ?_
        rw [flO_s rfl]
        exact ih _ _
  refine ev_of (by decide +kernel) rfl ?_
  show SW X _ _ _ 0 [some (.ref lo), none, none, none] [] S I L R _
  refine s_iconst (v := nI 0) (tb_ok aX0_same_0 0 rfl) (by decide) ?_
  refine s_istore_n (ls' := [some (.ref lo), some (.int (nI 0)), none, none]) (tb_ok aX0_same_0 1 rfl) rfl rfl ?_
  refine s_eqI (flO_0 (o := lo + 3) (g := (cl1 (I (lo + 1)) (I (lo + 2)) m))).symm ?_
  exact loop 0 (Nat.zero_le _) _ _
