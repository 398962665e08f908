/-! what follows: by the laws (fr k: the facts of law k as bits, fa k: its fact), m laws -/
def nxS (fr fa : Nat → Int32) (set wo : Int32) : Nat → Int32
  | 0 => 0
  | k + 1 => if ¬ (nI k = wo) ∧ fr k &&& ~~~set = 0 then nxS fr fa set wo k ||| ((1 : Int32) <<< (fa k &&& 31)) else nxS fr fa set wo k
def nx (fr fa : Nat → Int32) (m : Nat) (set wo : Int32) : Int32 := nxS fr fa set wo m &&& ~~~set
def isLore (S : Sh) (R : FR) (o : Nat) : Prop := S[o]? = some (0, 4) ∧ R o 0 = some (o + 1) ∧ S[o + 1]? = some (9, 10) ∧ R o 1 = some (o + 2) ∧ S[o + 2]? = some (9, 10) ∧ R o 2 = some (o + 3) ∧ S[o + 3]? = some (9, 12)

set_option maxRecDepth 100000 in
set_option maxHeartbeats 4000000 in
theorem E_next {X : En} {S : Sh} {I : FI} {L : FL} {R : FR} {lo m : Nat} (hL : isLore S R lo) (hm : I lo 3 = nI m) (hm10 : m ≤ 10) (set wo : Int32) : Ev X 0 mX0_next (0, 0) [.ref lo, .int set, .int wo] S I L R (PureR (some (.int (nx (I (lo + 1)) (I (lo + 2)) m set wo))) S I L R) := by
  obtain ⟨h1, h2, h3, h4, h5, h6, h7⟩ := hL
  have loop : ∀ k, k ≤ m → SW X 0 mX0_next (0, 0) 5 [some (.ref lo), some (.int set), some (.int wo), some (.int (nxS (I (lo + 1)) (I (lo + 2)) set wo k)), some (.int (nI k))] [] S I L R (KQ X (PureR (some (.int (nx (I (lo + 1)) (I (lo + 2)) m set wo))) S I L R)) := by
    refine for_up (P := fun k => SW X 0 mX0_next (0, 0) 5 [some (.ref lo), some (.int set), some (.int wo), some (.int (nxS (I (lo + 1)) (I (lo + 2)) set wo k)), some (.int (nI k))] [] S I L R (KQ X (PureR (some (.int (nx (I (lo + 1)) (I (lo + 2)) m set wo))) S I L R))) m ?_ ?_
    · refine s_iload (tb_ok aX0_next_0 4 rfl) rfl ?_
      refine s_aload_n (tb_ok aX0_next_0 5 rfl) rfl ?_
      refine s_getI (x := (nI m)) (tb_ok aX0_next_0 6 rfl) f_RX0_21 h1 rfl hm ?_
      refine s_icmp_ge (tgt := 59) (tb_ok aX0_next_0 7 rfl) (by decide) (fun c11 => ?_) (fun c11 => ?_)
      · refine s_iload_n (tb_ok aX0_next_1 10 rfl) rfl ?_
        refine s_iload_n (tb_ok aX0_next_1 11 rfl) rfl ?_
        refine s_iconst (v := -1) (tb_ok aX0_next_1 12 rfl) (by decide) ?_
        refine s_ixor (tb_ok aX0_next_1 13 rfl) ?_
        refine s_iand (tb_ok aX0_next_1 14 rfl) ?_
        refine s_iret (tb_ok aX0_next_1 15 rfl) rfl ?_
        exact pureE (by simp [nx])
      · simp (disch := omega) only [nI_ltI, nI_leI, nI_eq] at c11
        omega
    · intro k hk ih
      refine s_iload (tb_ok aX0_next_0 4 rfl) rfl ?_
      refine s_aload_n (tb_ok aX0_next_0 5 rfl) rfl ?_
      refine s_getI (x := (nI m)) (tb_ok aX0_next_0 6 rfl) f_RX0_21 h1 rfl hm ?_
      refine s_icmp_ge (tgt := 59) (tb_ok aX0_next_0 7 rfl) (by decide) (fun c11 => ?_) (fun c11 => ?_)
      · simp (disch := omega) only [nI_ltI, nI_leI, nI_eq] at c11
        omega
      · refine s_iload (tb_ok aX0_next_0 8 rfl) rfl ?_
        refine s_bipush (v := nI 10) (tb_ok aX0_next_0 9 rfl) (by decide) ?_
        refine s_icmp_ge (tgt := 59) (tb_ok aX0_next_0 10 rfl) (by decide) (fun c18 => ?_) (fun c18 => ?_)
        · simp (disch := omega) only [nI_ltI, nI_leI, nI_eq] at c18
          omega
        · refine s_iload (tb_ok aX0_next_0 11 rfl) rfl ?_
          refine s_iload_n (tb_ok aX0_next_0 12 rfl) rfl ?_
          refine s_icmp_eq (tgt := 53) (tb_ok aX0_next_0 13 rfl) (by decide) (fun c24 => ?_) (fun c24 => ?_)
          · refine s_iinc (v := nI (k + 1)) (ls' := [some (.ref lo), some (.int set), some (.int wo), some (.int (nxS (I (lo + 1)) (I (lo + 2)) set wo k)), some (.int (nI (k + 1)))]) (tb_ok aX0_next_1 8 rfl) rfl (nI_1 _) rfl rfl ?_
            refine s_goto (tgt := 5) (tb_ok aX0_next_1 9 rfl) (by decide) ?_
            refine s_ls ?_ ih
            simp_all [nxS]
          · refine s_aload_n (tb_ok aX0_next_0 14 rfl) rfl ?_
            refine s_getR (r := (lo + 1)) (tb_ok aX0_next_0 15 rfl) f_RX0_9 h1 rfl h2 ?_
            refine s_iload (tb_ok aX0_next_0 16 rfl) rfl ?_
            refine s_ialdN (tb_ok aX0_next_0 17 rfl) h3 (by omega) (by decide) ?_
            refine s_iload_n (tb_ok aX0_next_0 18 rfl) rfl ?_
            refine s_iconst (v := -1) (tb_ok aX0_next_0 19 rfl) (by decide) ?_
            refine s_ixor (tb_ok aX0_next_0 20 rfl) ?_
            refine s_iand (tb_ok aX0_next_0 21 rfl) ?_
            refine s_if_ne (tgt := 53) (tb_ok aX0_next_0 22 rfl) (by decide) (fun c38 => ?_) (fun c38 => ?_)
            · refine s_iinc (v := nI (k + 1)) (ls' := [some (.ref lo), some (.int set), some (.int wo), some (.int (nxS (I (lo + 1)) (I (lo + 2)) set wo k)), some (.int (nI (k + 1)))]) (tb_ok aX0_next_1 8 rfl) rfl (nI_1 _) rfl rfl ?_
              refine s_goto (tgt := 5) (tb_ok aX0_next_1 9 rfl) (by decide) ?_
              refine s_ls ?_ ih
              simp_all [nxS]
            · refine s_iload_n (tb_ok aX0_next_0 23 rfl) rfl ?_
              refine s_iconst (v := 1) (tb_ok aX0_next_1 0 rfl) (by decide) ?_
              refine s_aload_n (tb_ok aX0_next_1 1 rfl) rfl ?_
              refine s_getR (r := (lo + 2)) (tb_ok aX0_next_1 2 rfl) f_RX0_15 h1 rfl h4 ?_
              refine s_iload (tb_ok aX0_next_1 3 rfl) rfl ?_
              refine s_ialdN (tb_ok aX0_next_1 4 rfl) h5 (by omega) (by decide) ?_
              refine s_ishl (tb_ok aX0_next_1 5 rfl) ?_
              refine s_ior (tb_ok aX0_next_1 6 rfl) ?_
              refine s_name (fun x1 ex1 => ?_)
              refine s_istore_n (ls' := [some (.ref lo), some (.int set), some (.int wo), some (.int x1), some (.int (nI k))]) (tb_ok aX0_next_1 7 rfl) rfl rfl ?_
              refine s_iinc (v := nI (k + 1)) (ls' := [some (.ref lo), some (.int set), some (.int wo), some (.int x1), some (.int (nI (k + 1)))]) (tb_ok aX0_next_1 8 rfl) rfl (nI_1 _) rfl rfl ?_
              refine s_goto (tgt := 5) (tb_ok aX0_next_1 9 rfl) (by decide) ?_
              refine s_ls ?_ ih
              simp_all [nxS]
  refine ev_of (by decide +kernel) rfl ?_
  show SW X _ _ _ 0 [some (.ref lo), some (.int set), some (.int wo), none, none] [] S I L R _
  refine s_iconst (v := 0) (tb_ok aX0_next_0 0 rfl) (by decide) ?_
  refine s_istore_n (ls' := [some (.ref lo), some (.int set), some (.int wo), some (.int (0)), none]) (tb_ok aX0_next_0 1 rfl) rfl rfl ?_
  refine s_iconst (v := nI 0) (tb_ok aX0_next_0 2 rfl) (by decide) ?_
  refine s_istore (ls' := [some (.ref lo), some (.int set), some (.int wo), some (.int (0)), some (.int (nI 0))]) (tb_ok aX0_next_0 3 rfl) rfl rfl ?_
  exact loop 0 (Nat.zero_le _)
