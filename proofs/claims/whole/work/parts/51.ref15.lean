/-! the reference: whom, of which kind, the chance -/
theorem i_w (a b x y t : Int32) : a - (b - x + y) = (a - b) - (t - x) + (t - y) := by
  have e1 : -(t + -x) = -t + x := by rw [Int32.neg_add, Int32.sub_eq_add_neg, Int32.neg_neg]
  have e2 : -(b + -x + y) = -b + x + -y := by rw [Int32.neg_add, Int32.neg_add, Int32.sub_eq_add_neg, Int32.sub_eq_add_neg, Int32.neg_neg]
  simp only [Int32.sub_eq_add_neg]
  rw [e1, e2]
  have e3 : a + -b + (-t + x) + (t + -y) = (a + (-b + x + -y)) + (-t + t) := by ac_rfl
  rw [e3, Int32.add_left_neg, Int32.add_zero]
section WHM
variable {sem : Nat → (Nat → Int32) → Int32} {fr fa : Nat → Int32} {m : Nat} {T : Nat → Nat → Int32} {d n M k : Nat} {f : Nat → Int32}
theorem apS_u (hk : k < M) : ∀ K, apS (itT sem fr fa m d (uT T k f) n) M K = if k < K then apS (itT sem fr fa m d T n) M K - itP sem fr fa m (nI d) (T k) n 3 + itP sem fr fa m (nI d) f n 3 else apS (itT sem fr fa m d T n) M K := by
  intro K
  induction K with
  | zero => rw [if_neg (by omega)]; rfl
  | succ K ih =>
    unfold apS
    by_cases hK : K < M
    · rw [if_pos hK, if_pos hK, ih]
      by_cases e : K = k
      · subst e
        rw [if_neg (by omega), if_pos (by omega)]
        show _ + itP sem fr fa m (nI d) (uT T K f K) n 3 = _ + itP sem fr fa m (nI d) (T K) n 3 - _ + _
        rw [uT_o, Int32.add_sub_cancel]
      · have eT : itT sem fr fa m d (uT T k f) n K = itT sem fr fa m d T n K := by unfold itT; rw [uT_n e]
        rw [eT]
        by_cases hlt : k < K
        · rw [if_pos hlt, if_pos (by omega)]
          simp only [Int32.sub_eq_add_neg]
          ac_rfl
        · rw [if_neg hlt, if_neg (by omega)]
    · rw [if_neg hK, if_neg hK, ih, if_pos (by omega), if_pos (by omega)]
theorem whm_v (hk : k < M) (hM : M ≤ 5) {more : Int32} (hf : f = upd (T k) 2 (T k 2 ||| more)) : apS T M 5 - apS (itT sem fr fa m d (uT T k f) n) M 5 = bshP sem fr fa m M (nI d) T n - bskP sem fr fa m (nI d) (T k) 0 n + bskP sem fr fa m (nI d) (T k) more n := by
  rw [apS_u hk 5, if_pos (by omega), hf]
  have e0 : bskP sem fr fa m (nI d) (T k) 0 n = T k 3 - itP sem fr fa m (nI d) (T k) n 3 := by
    show T k 3 - itP sem fr fa m (nI d) (upd (T k) 2 (T k 2 ||| 0)) n 3 = _
    rw [or_0, upd_same]
  rw [e0]
  exact i_w _ _ _ _ _
end WHM
theorem ap_le {sem : Nat → (Nat → Int32) → Int32} {fr fa : Nat → Int32} {m : Nat} (hfa : okFa m fa) {T : Nat → Nat → Int32} {M : Nat} (hT : ∀ j, j < M → okT (T j)) (d n : Nat) : ∀ k, ∃ a b, b ≤ a ∧ a ≤ 100 * k ∧ apS T M k = nI a ∧ apS (itT sem fr fa m d T n) M k = nI b := by
  intro k
  induction k with
  | zero => exact ⟨0, 0, Nat.le_refl _, by omega, rfl, rfl⟩
  | succ k ih =>
    obtain ⟨a, b, hab, ha, ea, eb⟩ := ih
    unfold apS
    by_cases hk : k < M
    · rw [if_pos hk, if_pos hk, ea, eb]
      obtain ⟨x, hx, ex⟩ := (hT k hk).2.2.2.1
      obtain ⟨y, hy, ey⟩ := it_le (sem := sem) (fr := fr) hfa (hT k hk) (nI d) ex hx n
      refine ⟨a + x, b + y, by omega, by omega, by rw [ex, nI_add'], ?_⟩
      show nI b + itP sem fr fa m (nI d) (T k) n 3 = _
      rw [ey, nI_add']
    · rw [if_neg hk, if_neg hk]; exact ⟨a, b, hab, by omega, ea, eb⟩
theorem bsh_0 {sem : Nat → (Nat → Int32) → Int32} {fr fa : Nat → Int32} {m : Nat} (hfa : okFa m fa) {T : Nat → Nat → Int32} {M : Nat} (hT : ∀ j, j < M → okT (T j)) (d n : Nat) : 0 ≤ bshP sem fr fa m M (nI d) T n := by
  obtain ⟨a, b, hab, ha, ea, eb⟩ := ap_le (sem := sem) (fr := fr) hfa hT d n 5
  show 0 ≤ apS T M 5 - apS (itT sem fr fa m d T n) M 5
  rw [ea, eb, nI_sub' hab]
  exact Int32.not_lt.mp (nI_pos (by omega))
set_option maxRecDepth 100000 in
set_option maxHeartbeats 1000000 in
theorem R_whom0 {X : En} {L : FL} {q : Nat × Nat} {I : FI} {m : Nat} {fr fa : Nat → Int32} {M : Nat} {T : Nat → Nat → Int32} {d : Nat} {sem : Nat → Sem} (h : RSt I m fr fa M T d sem) (hd : d ≤ 5000) {g : Nat} (hg : g < 12) {n : Nat} (hn : n ≤ 40) : Ev X 60 mX8_whom (0, 0) [.ref 66, .int (nI g), .int (nI n), .int (0)] S0 I L (R0 q) (AfZ q eB I ((mxS (fun k => wlI sem fr fa m (T k) (nI g) (nI d)) (fun k => bshP sem fr fa m M (nI d) T n - bskP sem fr fa m (nI d) (T k) 0 n + bskP sem fr fa m (nI d) (T k) ((1 : Int32) <<< (nI g &&& 31)) n) (bshP sem fr fa m M (nI d) T n) M).1)) := by
  have hM5 := h.M5
  have hm0 : 0 ≤ bshP sem fr fa m M (nI d) T n := bsh_0 h.2.1 (fun j hj => h.ok hj) _ _
  have loop : ∀ k, k ≤ M → ∀ (I1 : FI), ∀ (L1 : FL), ∀ (o7 : Option Value), (FrE eB I1 I) → SW X 60 mX8_whom (0, 0) 48 [some (.ref 66), some (.int (nI g)), some (.int (nI n)), some (.int (0)), some (.int (mxS (fun k => wlI sem fr fa m (T k) (nI g) (nI d)) (fun k => bshP sem fr fa m M (nI d) T n - bskP sem fr fa m (nI d) (T k) 0 n + bskP sem fr fa m (nI d) (T k) ((1 : Int32) <<< (nI g &&& 31)) n) (bshP sem fr fa m M (nI d) T n) k).1), some (.int (mxS (fun k => wlI sem fr fa m (T k) (nI g) (nI d)) (fun k => bshP sem fr fa m M (nI d) T n - bskP sem fr fa m (nI d) (T k) 0 n + bskP sem fr fa m (nI d) (T k) ((1 : Int32) <<< (nI g &&& 31)) n) (bshP sem fr fa m M (nI d) T n) k).2), some (.int (nI k)), o7] [] S0 I1 L1 (R0 q) (KQ X (AfZ q eB I ((mxS (fun k => wlI sem fr fa m (T k) (nI g) (nI d)) (fun k => bshP sem fr fa m M (nI d) T n - bskP sem fr fa m (nI d) (T k) 0 n + bskP sem fr fa m (nI d) (T k) ((1 : Int32) <<< (nI g &&& 31)) n) (bshP sem fr fa m M (nI d) T n) M).1))) := by
    refine for_up (P := fun k => ∀ (I1 : FI), ∀ (L1 : FL), ∀ (o7 : Option Value), (FrE eB I1 I) → SW X 60 mX8_whom (0, 0) 48 [some (.ref 66), some (.int (nI g)), some (.int (nI n)), some (.int (0)), some (.int (mxS (fun k => wlI sem fr fa m (T k) (nI g) (nI d)) (fun k => bshP sem fr fa m M (nI d) T n - bskP sem fr fa m (nI d) (T k) 0 n + bskP sem fr fa m (nI d) (T k) ((1 : Int32) <<< (nI g &&& 31)) n) (bshP sem fr fa m M (nI d) T n) k).1), some (.int (mxS (fun k => wlI sem fr fa m (T k) (nI g) (nI d)) (fun k => bshP sem fr fa m M (nI d) T n - bskP sem fr fa m (nI d) (T k) 0 n + bskP sem fr fa m (nI d) (T k) ((1 : Int32) <<< (nI g &&& 31)) n) (bshP sem fr fa m M (nI d) T n) k).2), some (.int (nI k)), o7] [] S0 I1 L1 (R0 q) (KQ X (AfZ q eB I ((mxS (fun k => wlI sem fr fa m (T k) (nI g) (nI d)) (fun k => bshP sem fr fa m M (nI d) T n - bskP sem fr fa m (nI d) (T k) 0 n + bskP sem fr fa m (nI d) (T k) ((1 : Int32) <<< (nI g &&& 31)) n) (bshP sem fr fa m M (nI d) T n) M).1)))) M ?_ ?_
    · intro I1 L1 o7 hi
      refine s_iload (tb_ok aX8_whom_1 4 rfl) rfl ?_
      refine s_aload_n (tb_ok aX8_whom_1 5 rfl) rfl ?_
      refine s_getI (x := (nI M)) (tb_ok aX8_whom_1 6 rfl) f_RX8_70 rfl rfl (h.see (see_eB hi)).mn ?_
      refine s_icmp_ge (tgt := 113) (tb_ok aX8_whom_1 7 rfl) (by decide) (fun c54 => ?_) (fun c54 => ?_)
      · refine s_iload_n (tb_ok aX8_whom_2 12 rfl) rfl ?_
        refine s_if_ne (tgt := 122) (tb_ok aX8_whom_2 13 rfl) (by decide) (fun c114 => ?_) (fun c114 => ?_)
        · exact absurd c114 (by decide)
        · refine s_iload (tb_ok aX8_whom_2 14 rfl) rfl ?_
          refine s_goto (tgt := 124) (tb_ok aX8_whom_2 15 rfl) (by decide) ?_
          refine s_iret (tb_ok aX8_whom_2 17 rfl) rfl ?_
          exact afZ rfl hi
      · simp (disch := omega) only [nI_ltI, nI_leI, nI_eq] at c54
        omega
    · intro k hk ih I1 L1 o7 hi
      have h1 := h.see (see_eB hi)
      refine s_iload (tb_ok aX8_whom_1 4 rfl) rfl ?_
      refine s_aload_n (tb_ok aX8_whom_1 5 rfl) rfl ?_
      refine s_getI (x := (nI M)) (tb_ok aX8_whom_1 6 rfl) f_RX8_70 rfl rfl h1.mn ?_
      refine s_icmp_ge (tgt := 113) (tb_ok aX8_whom_1 7 rfl) (by decide) (fun c54 => ?_) (fun c54 => ?_)
      · simp (disch := omega) only [nI_ltI, nI_leI, nI_eq] at c54
        omega
      · refine s_aload_n (tb_ok aX8_whom_1 8 rfl) rfl ?_
        refine s_iload (tb_ok aX8_whom_1 9 rfl) rfl ?_
        refine s_iload_n (tb_ok aX8_whom_1 10 rfl) rfl ?_
        refine s_cVp (as := [.int (nI k), .int (nI g)]) (tb_ok aX8_whom_1 11 rfl) v_RX8_372 (R_knowsIt h1 hk _) (by decide) rfl rfl rfl rfl rfl (Nat.le_of_ble_eq_true rfl) (by decide) ?_
        refine s_if_ne (tgt := 77) (tb_ok aX8_whom_1 12 rfl) (by decide) (fun c64 => ?_) (fun c64 => ?_)
        · refine s_iconst (v := -1) (tb_ok aX8_whom_1 18 rfl) (by decide) ?_
          refine s_goto (tgt := 90) (tb_ok aX8_whom_1 19 rfl) (by decide) ?_
          refine s_istore (ls' := [some (.ref 66), some (.int (nI g)), some (.int (nI n)), some (.int (0)), some (.int (mxS (fun k => wlI sem fr fa m (T k) (nI g) (nI d)) (fun k => bshP sem fr fa m M (nI d) T n - bskP sem fr fa m (nI d) (T k) 0 n + bskP sem fr fa m (nI d) (T k) ((1 : Int32) <<< (nI g &&& 31)) n) (bshP sem fr fa m M (nI d) T n) k).1), some (.int (mxS (fun k => wlI sem fr fa m (T k) (nI g) (nI d)) (fun k => bshP sem fr fa m M (nI d) T n - bskP sem fr fa m (nI d) (T k) 0 n + bskP sem fr fa m (nI d) (T k) ((1 : Int32) <<< (nI g &&& 31)) n) (bshP sem fr fa m M (nI d) T n) k).2), some (.int (nI k)), some (.int (-1))]) (tb_ok aX8_whom_2 2 rfl) rfl rfl ?_
          refine s_iload (tb_ok aX8_whom_2 3 rfl) rfl ?_
          refine s_iload (tb_ok aX8_whom_2 4 rfl) rfl ?_
          refine s_icmp_le (tgt := 107) (tb_ok aX8_whom_2 5 rfl) (by decide) (fun c96 => ?_) (fun c96 => ?_)
          · refine s_iinc (v := nI (k + 1)) (ls' := [some (.ref 66), some (.int (nI g)), some (.int (nI n)), some (.int (0)), some (.int (mxS (fun k => wlI sem fr fa m (T k) (nI g) (nI d)) (fun k => bshP sem fr fa m M (nI d) T n - bskP sem fr fa m (nI d) (T k) 0 n + bskP sem fr fa m (nI d) (T k) ((1 : Int32) <<< (nI g &&& 31)) n) (bshP sem fr fa m M (nI d) T n) k).1), some (.int (mxS (fun k => wlI sem fr fa m (T k) (nI g) (nI d)) (fun k => bshP sem fr fa m M (nI d) T n - bskP sem fr fa m (nI d) (T k) 0 n + bskP sem fr fa m (nI d) (T k) ((1 : Int32) <<< (nI g &&& 31)) n) (bshP sem fr fa m M (nI d) T n) k).2), some (.int (nI (k + 1))), some (.int (-1))]) (tb_ok aX8_whom_2 10 rfl) rfl (nI_1 _) rfl rfl ?_
            refine s_goto (tgt := 48) (tb_ok aX8_whom_2 11 rfl) (by decide) ?_
            have hw : ¬ ¬ wlI sem fr fa m (T k) (nI g) (nI d) = 0 := fun h_ => by have h__ := wl_ne.mp h_; first | exact c64 h__.1 | exact h__.2 c74
            refine s_ls ?_ (ih _ _ (some (.int (-1))) hi)
            rw [show (mxS (fun k => wlI sem fr fa m (T k) (nI g) (nI d)) (fun k => bshP sem fr fa m M (nI d) T n - bskP sem fr fa m (nI d) (T k) 0 n + bskP sem fr fa m (nI d) (T k) ((1 : Int32) <<< (nI g &&& 31)) n) (bshP sem fr fa m M (nI d) T n) (k + 1)) = (mxS (fun k => wlI sem fr fa m (T k) (nI g) (nI d)) (fun k => bshP sem fr fa m M (nI d) T n - bskP sem fr fa m (nI d) (T k) 0 n + bskP sem fr fa m (nI d) (T k) ((1 : Int32) <<< (nI g &&& 31)) n) (bshP sem fr fa m M (nI d) T n) k) from if_neg (fun h_ => hw h_.1)]
          · have h0_ := mxS_0 (ok := (fun k => wlI sem fr fa m (T k) (nI g) (nI d))) (v := (fun k => bshP sem fr fa m M (nI d) T n - bskP sem fr fa m (nI d) (T k) 0 n + bskP sem fr fa m (nI d) (T k) ((1 : Int32) <<< (nI g &&& 31)) n)) hm0 k
            exact absurd (Int32.le_trans (by decide) h0_) c96
        · refine s_aload_n (tb_ok aX8_whom_1 13 rfl) rfl ?_
          refine s_iload (tb_ok aX8_whom_1 14 rfl) rfl ?_
          refine s_iload_n (tb_ok aX8_whom_1 15 rfl) rfl ?_
          refine s_cV (as := [.int (nI k), .int (nI g)]) (tb_ok aX8_whom_1 16 rfl) v_RX8_375 (R_takes h1 hk _) (by decide) rfl rfl rfl rfl rfl (Nat.le_of_ble_eq_true rfl) (by decide) (fun r1 S1 I1 L1 R1 q1 => ?_)
          obtain ⟨rfl, rfl, rfl, hf6⟩ := q1
          have h6 := RSt.see h1 (see_eS hf6)
          refine s_if_ne (tgt := 81) (tb_ok aX8_whom_1 17 rfl) (by decide) (fun c74 => ?_) (fun c74 => ?_)
          · refine s_aload_n (tb_ok aX8_whom_1 20 rfl) rfl ?_
            refine s_iload (tb_ok aX8_whom_1 21 rfl) rfl ?_
            refine s_iload_n (tb_ok aX8_whom_1 22 rfl) rfl ?_
            refine s_iload_n (tb_ok aX8_whom_1 23 rfl) rfl ?_
            refine s_iconst (v := 1) (tb_ok aX8_whom_2 0 rfl) (by decide) ?_
            refine s_cV (as := [.int (nI k), .int (nI g), .int (nI n), .int (1)]) (tb_ok aX8_whom_2 1 rfl) v_RX8_406 (R_bskAH h6 hd hk hg hn) (by decide) rfl rfl rfl rfl rfl (Nat.le_of_ble_eq_true rfl) (by decide) (fun r2 S2 I2 L2 R2 q2 => ?_)
            obtain ⟨rfl, rfl, rfl, hf4⟩ := q2
            refine s_name (fun x1 ex1 => ?_)
            refine s_istore (ls' := [some (.ref 66), some (.int (nI g)), some (.int (nI n)), some (.int (0)), some (.int (mxS (fun k => wlI sem fr fa m (T k) (nI g) (nI d)) (fun k => bshP sem fr fa m M (nI d) T n - bskP sem fr fa m (nI d) (T k) 0 n + bskP sem fr fa m (nI d) (T k) ((1 : Int32) <<< (nI g &&& 31)) n) (bshP sem fr fa m M (nI d) T n) k).1), some (.int (mxS (fun k => wlI sem fr fa m (T k) (nI g) (nI d)) (fun k => bshP sem fr fa m M (nI d) T n - bskP sem fr fa m (nI d) (T k) 0 n + bskP sem fr fa m (nI d) (T k) ((1 : Int32) <<< (nI g &&& 31)) n) (bshP sem fr fa m M (nI d) T n) k).2), some (.int (nI k)), some (.int x1)]) (tb_ok aX8_whom_2 2 rfl) rfl rfl ?_
            refine s_iload (tb_ok aX8_whom_2 3 rfl) rfl ?_
            refine s_iload (tb_ok aX8_whom_2 4 rfl) rfl ?_
            refine s_icmp_le (tgt := 107) (tb_ok aX8_whom_2 5 rfl) (by decide) (fun c96 => ?_) (fun c96 => ?_)
            · refine s_iinc (v := nI (k + 1)) (ls' := [some (.ref 66), some (.int (nI g)), some (.int (nI n)), some (.int (0)), some (.int (mxS (fun k => wlI sem fr fa m (T k) (nI g) (nI d)) (fun k => bshP sem fr fa m M (nI d) T n - bskP sem fr fa m (nI d) (T k) 0 n + bskP sem fr fa m (nI d) (T k) ((1 : Int32) <<< (nI g &&& 31)) n) (bshP sem fr fa m M (nI d) T n) k).1), some (.int (mxS (fun k => wlI sem fr fa m (T k) (nI g) (nI d)) (fun k => bshP sem fr fa m M (nI d) T n - bskP sem fr fa m (nI d) (T k) 0 n + bskP sem fr fa m (nI d) (T k) ((1 : Int32) <<< (nI g &&& 31)) n) (bshP sem fr fa m M (nI d) T n) k).2), some (.int (nI (k + 1))), some (.int x1)]) (tb_ok aX8_whom_2 10 rfl) rfl (nI_1 _) rfl rfl ?_
              refine s_goto (tgt := 48) (tb_ok aX8_whom_2 11 rfl) (by decide) ?_
              have hw : ¬ wlI sem fr fa m (T k) (nI g) (nI d) = 0 := wl_ne.mpr ⟨c64, c74⟩
              have ev : x1 = bshP sem fr fa m M (nI d) T n - bskP sem fr fa m (nI d) (T k) 0 n + bskP sem fr fa m (nI d) (T k) ((1 : Int32) <<< (nI g &&& 31)) n := by rw [ex1]; exact whm_v hk hM5 (hea_yes hw)
              refine s_ls ?_ (ih _ _ (some (.int x1)) ((hf4.trans (eS_eB hf6)).trans hi))
              rw [ev] at c96
              rw [show (mxS (fun k => wlI sem fr fa m (T k) (nI g) (nI d)) (fun k => bshP sem fr fa m M (nI d) T n - bskP sem fr fa m (nI d) (T k) 0 n + bskP sem fr fa m (nI d) (T k) ((1 : Int32) <<< (nI g &&& 31)) n) (bshP sem fr fa m M (nI d) T n) (k + 1)) = (mxS (fun k => wlI sem fr fa m (T k) (nI g) (nI d)) (fun k => bshP sem fr fa m M (nI d) T n - bskP sem fr fa m (nI d) (T k) 0 n + bskP sem fr fa m (nI d) (T k) ((1 : Int32) <<< (nI g &&& 31)) n) (bshP sem fr fa m M (nI d) T n) k) from if_neg (fun h_ => Int32.not_lt.mpr c96 h_.2)]
            · refine s_iload (tb_ok aX8_whom_2 6 rfl) rfl ?_
              refine s_istore (ls' := [some (.ref 66), some (.int (nI g)), some (.int (nI n)), some (.int (0)), some (.int (nI k)), some (.int (mxS (fun k => wlI sem fr fa m (T k) (nI g) (nI d)) (fun k => bshP sem fr fa m M (nI d) T n - bskP sem fr fa m (nI d) (T k) 0 n + bskP sem fr fa m (nI d) (T k) ((1 : Int32) <<< (nI g &&& 31)) n) (bshP sem fr fa m M (nI d) T n) k).2), some (.int (nI k)), some (.int x1)]) (tb_ok aX8_whom_2 7 rfl) rfl rfl ?_
              refine s_iload (tb_ok aX8_whom_2 8 rfl) rfl ?_
              refine s_istore (ls' := [some (.ref 66), some (.int (nI g)), some (.int (nI n)), some (.int (0)), some (.int (nI k)), some (.int x1), some (.int (nI k)), some (.int x1)]) (tb_ok aX8_whom_2 9 rfl) rfl rfl ?_
              refine s_iinc (v := nI (k + 1)) (ls' := [some (.ref 66), some (.int (nI g)), some (.int (nI n)), some (.int (0)), some (.int (nI k)), some (.int x1), some (.int (nI (k + 1))), some (.int x1)]) (tb_ok aX8_whom_2 10 rfl) rfl (nI_1 _) rfl rfl ?_
              refine s_goto (tgt := 48) (tb_ok aX8_whom_2 11 rfl) (by decide) ?_
              have hw : ¬ wlI sem fr fa m (T k) (nI g) (nI d) = 0 := wl_ne.mpr ⟨c64, c74⟩
              have ev : x1 = bshP sem fr fa m M (nI d) T n - bskP sem fr fa m (nI d) (T k) 0 n + bskP sem fr fa m (nI d) (T k) ((1 : Int32) <<< (nI g &&& 31)) n := by rw [ex1]; exact whm_v hk hM5 (hea_yes hw)
              refine s_ls ?_ (ih _ _ (some (.int x1)) ((hf4.trans (eS_eB hf6)).trans hi))
              rw [ev] at c96
              rw [show (mxS (fun k => wlI sem fr fa m (T k) (nI g) (nI d)) (fun k => bshP sem fr fa m M (nI d) T n - bskP sem fr fa m (nI d) (T k) 0 n + bskP sem fr fa m (nI d) (T k) ((1 : Int32) <<< (nI g &&& 31)) n) (bshP sem fr fa m M (nI d) T n) (k + 1)) = (nI k, bshP sem fr fa m M (nI d) T n - bskP sem fr fa m (nI d) (T k) 0 n + bskP sem fr fa m (nI d) (T k) ((1 : Int32) <<< (nI g &&& 31)) n) from if_pos ⟨hw, Int32.not_le.mp c96⟩, ev]
          · refine s_iconst (v := -1) (tb_ok aX8_whom_1 18 rfl) (by decide) ?_
            refine s_goto (tgt := 90) (tb_ok aX8_whom_1 19 rfl) (by decide) ?_
            refine s_istore (ls' := [some (.ref 66), some (.int (nI g)), some (.int (nI n)), some (.int (0)), some (.int (mxS (fun k => wlI sem fr fa m (T k) (nI g) (nI d)) (fun k => bshP sem fr fa m M (nI d) T n - bskP sem fr fa m (nI d) (T k) 0 n + bskP sem fr fa m (nI d) (T k) ((1 : Int32) <<< (nI g &&& 31)) n) (bshP sem fr fa m M (nI d) T n) k).1), some (.int (mxS (fun k => wlI sem fr fa m (T k) (nI g) (nI d)) (fun k => bshP sem fr fa m M (nI d) T n - bskP sem fr fa m (nI d) (T k) 0 n + bskP sem fr fa m (nI d) (T k) ((1 : Int32) <<< (nI g &&& 31)) n) (bshP sem fr fa m M (nI d) T n) k).2), some (.int (nI k)), some (.int (-1))]) (tb_ok aX8_whom_2 2 rfl) rfl rfl ?_
            refine s_iload (tb_ok aX8_whom_2 3 rfl) rfl ?_
            refine s_iload (tb_ok aX8_whom_2 4 rfl) rfl ?_
            refine s_icmp_le (tgt := 107) (tb_ok aX8_whom_2 5 rfl) (by decide) (fun c96 => ?_) (fun c96 => ?_)
            · refine s_iinc (v := nI (k + 1)) (ls' := [some (.ref 66), some (.int (nI g)), some (.int (nI n)), some (.int (0)), some (.int (mxS (fun k => wlI sem fr fa m (T k) (nI g) (nI d)) (fun k => bshP sem fr fa m M (nI d) T n - bskP sem fr fa m (nI d) (T k) 0 n + bskP sem fr fa m (nI d) (T k) ((1 : Int32) <<< (nI g &&& 31)) n) (bshP sem fr fa m M (nI d) T n) k).1), some (.int (mxS (fun k => wlI sem fr fa m (T k) (nI g) (nI d)) (fun k => bshP sem fr fa m M (nI d) T n - bskP sem fr fa m (nI d) (T k) 0 n + bskP sem fr fa m (nI d) (T k) ((1 : Int32) <<< (nI g &&& 31)) n) (bshP sem fr fa m M (nI d) T n) k).2), some (.int (nI (k + 1))), some (.int (-1))]) (tb_ok aX8_whom_2 10 rfl) rfl (nI_1 _) rfl rfl ?_
              refine s_goto (tgt := 48) (tb_ok aX8_whom_2 11 rfl) (by decide) ?_
              have hw : ¬ ¬ wlI sem fr fa m (T k) (nI g) (nI d) = 0 := fun h_ => by have h__ := wl_ne.mp h_; first | exact c64 h__.1 | exact h__.2 c74
              refine s_ls ?_ (ih _ _ (some (.int (-1))) ((eS_eB hf6).trans hi))
              rw [show (mxS (fun k => wlI sem fr fa m (T k) (nI g) (nI d)) (fun k => bshP sem fr fa m M (nI d) T n - bskP sem fr fa m (nI d) (T k) 0 n + bskP sem fr fa m (nI d) (T k) ((1 : Int32) <<< (nI g &&& 31)) n) (bshP sem fr fa m M (nI d) T n) (k + 1)) = (mxS (fun k => wlI sem fr fa m (T k) (nI g) (nI d)) (fun k => bshP sem fr fa m M (nI d) T n - bskP sem fr fa m (nI d) (T k) 0 n + bskP sem fr fa m (nI d) (T k) ((1 : Int32) <<< (nI g &&& 31)) n) (bshP sem fr fa m M (nI d) T n) k) from if_neg (fun h_ => hw h_.1)]
            · have h0_ := mxS_0 (ok := (fun k => wlI sem fr fa m (T k) (nI g) (nI d))) (v := (fun k => bshP sem fr fa m M (nI d) T n - bskP sem fr fa m (nI d) (T k) 0 n + bskP sem fr fa m (nI d) (T k) ((1 : Int32) <<< (nI g &&& 31)) n)) hm0 k
              exact absurd (Int32.le_trans (by decide) h0_) c96
  refine ev_of (by decide +kernel) rfl ?_
  show SW X _ _ _ 0 [some (.ref 66), some (.int (nI g)), some (.int (nI n)), some (.int (0)), none, none, none, none] [] S0 I L (R0 q) _
  refine s_iload_n (tb_ok aX8_whom_0 0 rfl) rfl ?_
  refine s_cSp (as := [.int (nI g)]) (tb_ok aX8_whom_0 1 rfl) v_RX8_81 (R_isFact _) (by decide) rfl rfl (Nat.le_of_ble_eq_true rfl) ?_
  refine s_topi (bI_t (inN (n := g) (hi := 11) (by omega) (by decide))) ?_
  refine s_if_eq (tgt := 29) (tb_ok aX8_whom_0 2 rfl) (by decide) (fun c4 => ?_) (fun c4 => ?_)
  · exact absurd c4 (by decide)
  · refine s_iload_n (tb_ok aX8_whom_0 3 rfl) rfl ?_
    refine s_i2l (tb_ok aX8_whom_0 4 rfl) ?_
    refine s_lconst (v := 0) (tb_ok aX8_whom_0 5 rfl) (by decide) ?_
    refine s_ldc2 (tb_ok aX8_whom_0 6 rfl) k_RX8_387 ?_
    refine s_cSp (as := [_, .long (0), .long (40)]) (tb_ok aX8_whom_0 7 rfl) v_RX8_73 (R_in _ _ _) (by decide) rfl rfl (Nat.le_of_ble_eq_true rfl) ?_
    refine s_topi (bI_t ((in_iff (x := nI n) (lo := 0) (hi := 40) rfl (by decide) (by decide)).mpr (inN (hi := 40) hn (by decide)))) ?_
    refine s_if_eq (tgt := 29) (tb_ok aX8_whom_0 8 rfl) (by decide) (fun c16 => ?_) (fun c16 => ?_)
    · exact absurd c16 (by decide)
    · refine s_iload_n (tb_ok aX8_whom_0 9 rfl) rfl ?_
      refine s_i2l (tb_ok aX8_whom_0 10 rfl) ?_
      refine s_lconst (v := 0) (tb_ok aX8_whom_0 11 rfl) (by decide) ?_
      refine s_lconst (v := 1) (tb_ok aX8_whom_0 12 rfl) (by decide) ?_
      refine s_cSp (as := [_, .long (0), .long (1)]) (tb_ok aX8_whom_0 13 rfl) v_RX8_73 (R_in _ _ _) (by decide) rfl rfl (Nat.le_of_ble_eq_true rfl) ?_
      refine s_topi (bI_t (by decide)) ?_
      refine s_if_ne (tgt := 32) (tb_ok aX8_whom_0 14 rfl) (by decide) (fun c26 => ?_) (fun c26 => ?_)
      · refine s_iconst (v := -1) (tb_ok aX8_whom_0 17 rfl) (by decide) ?_
        refine s_istore (ls' := [some (.ref 66), some (.int (nI g)), some (.int (nI n)), some (.int (0)), some (.int (-1)), none, none, none]) (tb_ok aX8_whom_0 18 rfl) rfl rfl ?_
        refine s_aload_n (tb_ok aX8_whom_0 19 rfl) rfl ?_
        refine s_iconst (v := 0) (tb_ok aX8_whom_0 20 rfl) (by decide) ?_
        refine s_iconst (v := -1) (tb_ok aX8_whom_0 21 rfl) (by decide) ?_
        refine s_iload_n (tb_ok aX8_whom_0 22 rfl) rfl ?_
        refine s_iconst (v := 1) (tb_ok aX8_whom_0 23 rfl) (by decide) ?_
        refine s_cV (as := [.int (0), .int (-1), .int (nI n), .int (1)]) (tb_ok aX8_whom_1 0 rfl) v_RX8_406 (R_bskA h hd hn) (by decide) rfl rfl rfl rfl rfl (Nat.le_of_ble_eq_true rfl) (by decide) (fun r1 S1 I1 L1 R1 q1 => ?_)
        obtain ⟨rfl, rfl, rfl, hf4⟩ := q1
        refine s_name (fun x1 ex1 => ?_)
        refine s_istore (ls' := [some (.ref 66), some (.int (nI g)), some (.int (nI n)), some (.int (0)), some (.int (-1)), some (.int x1), none, none]) (tb_ok aX8_whom_1 1 rfl) rfl rfl ?_
        refine s_iconst (v := nI 0) (tb_ok aX8_whom_1 2 rfl) (by decide) ?_
        refine s_istore (ls' := [some (.ref 66), some (.int (nI g)), some (.int (nI n)), some (.int (0)), some (.int (-1)), some (.int x1), some (.int (nI 0)), none]) (tb_ok aX8_whom_1 3 rfl) rfl rfl ?_
        have e0 : x1 = bshP sem fr fa m M (nI d) T n := ex1
        subst e0
        exact loop 0 (Nat.zero_le _) _ _ _ hf4
      · exact absurd c26 (by decide)

set_option maxRecDepth 100000 in
set_option maxHeartbeats 1000000 in
theorem R_whom1 {X : En} {L : FL} {q : Nat × Nat} {I : FI} {m : Nat} {fr fa : Nat → Int32} {M : Nat} {T : Nat → Nat → Int32} {d : Nat} {sem : Nat → Sem} (h : RSt I m fr fa M T d sem) (hd : d ≤ 5000) {g : Nat} (hg : g < 12) {n : Nat} (hn : n ≤ 40) : Ev X 60 mX8_whom (0, 0) [.ref 66, .int (nI g), .int (nI n), .int (1)] S0 I L (R0 q) (AfZ q eB I ((mxS (fun k => wlI sem fr fa m (T k) (nI g) (nI d)) (fun k => bshP sem fr fa m M (nI d) T n - bskP sem fr fa m (nI d) (T k) 0 n + bskP sem fr fa m (nI d) (T k) ((1 : Int32) <<< (nI g &&& 31)) n) (bshP sem fr fa m M (nI d) T n) M).2)) := by
  have hM5 := h.M5
  have hm0 : 0 ≤ bshP sem fr fa m M (nI d) T n := bsh_0 h.2.1 (fun j hj => h.ok hj) _ _
  have loop : ∀ k, k ≤ M → ∀ (I1 : FI), ∀ (L1 : FL), ∀ (o7 : Option Value), (FrE eB I1 I) → SW X 60 mX8_whom (0, 0) 48 [some (.ref 66), some (.int (nI g)), some (.int (nI n)), some (.int (1)), some (.int (mxS (fun k => wlI sem fr fa m (T k) (nI g) (nI d)) (fun k => bshP sem fr fa m M (nI d) T n - bskP sem fr fa m (nI d) (T k) 0 n + bskP sem fr fa m (nI d) (T k) ((1 : Int32) <<< (nI g &&& 31)) n) (bshP sem fr fa m M (nI d) T n) k).1), some (.int (mxS (fun k => wlI sem fr fa m (T k) (nI g) (nI d)) (fun k => bshP sem fr fa m M (nI d) T n - bskP sem fr fa m (nI d) (T k) 0 n + bskP sem fr fa m (nI d) (T k) ((1 : Int32) <<< (nI g &&& 31)) n) (bshP sem fr fa m M (nI d) T n) k).2), some (.int (nI k)), o7] [] S0 I1 L1 (R0 q) (KQ X (AfZ q eB I ((mxS (fun k => wlI sem fr fa m (T k) (nI g) (nI d)) (fun k => bshP sem fr fa m M (nI d) T n - bskP sem fr fa m (nI d) (T k) 0 n + bskP sem fr fa m (nI d) (T k) ((1 : Int32) <<< (nI g &&& 31)) n) (bshP sem fr fa m M (nI d) T n) M).2))) := by
    refine for_up (P := fun k => ∀ (I1 : FI), ∀ (L1 : FL), ∀ (o7 : Option Value), (FrE eB I1 I) → SW X 60 mX8_whom (0, 0) 48 [some (.ref 66), some (.int (nI g)), some (.int (nI n)), some (.int (1)), some (.int (mxS (fun k => wlI sem fr fa m (T k) (nI g) (nI d)) (fun k => bshP sem fr fa m M (nI d) T n - bskP sem fr fa m (nI d) (T k) 0 n + bskP sem fr fa m (nI d) (T k) ((1 : Int32) <<< (nI g &&& 31)) n) (bshP sem fr fa m M (nI d) T n) k).1), some (.int (mxS (fun k => wlI sem fr fa m (T k) (nI g) (nI d)) (fun k => bshP sem fr fa m M (nI d) T n - bskP sem fr fa m (nI d) (T k) 0 n + bskP sem fr fa m (nI d) (T k) ((1 : Int32) <<< (nI g &&& 31)) n) (bshP sem fr fa m M (nI d) T n) k).2), some (.int (nI k)), o7] [] S0 I1 L1 (R0 q) (KQ X (AfZ q eB I ((mxS (fun k => wlI sem fr fa m (T k) (nI g) (nI d)) (fun k => bshP sem fr fa m M (nI d) T n - bskP sem fr fa m (nI d) (T k) 0 n + bskP sem fr fa m (nI d) (T k) ((1 : Int32) <<< (nI g &&& 31)) n) (bshP sem fr fa m M (nI d) T n) M).2)))) M ?_ ?_
    · intro I1 L1 o7 hi
      refine s_iload (tb_ok aX8_whom_1 4 rfl) rfl ?_
      refine s_aload_n (tb_ok aX8_whom_1 5 rfl) rfl ?_
      refine s_getI (x := (nI M)) (tb_ok aX8_whom_1 6 rfl) f_RX8_70 rfl rfl (h.see (see_eB hi)).mn ?_
      refine s_icmp_ge (tgt := 113) (tb_ok aX8_whom_1 7 rfl) (by decide) (fun c54 => ?_) (fun c54 => ?_)
      · refine s_iload_n (tb_ok aX8_whom_2 12 rfl) rfl ?_
        refine s_if_ne (tgt := 122) (tb_ok aX8_whom_2 13 rfl) (by decide) (fun c114 => ?_) (fun c114 => ?_)
        · refine s_iload (tb_ok aX8_whom_2 16 rfl) rfl ?_
          refine s_iret (tb_ok aX8_whom_2 17 rfl) rfl ?_
          exact afZ rfl hi
        · exact absurd c114 (by decide)
      · simp (disch := omega) only [nI_ltI, nI_leI, nI_eq] at c54
        omega
    · intro k hk ih I1 L1 o7 hi
      have h1 := h.see (see_eB hi)
      refine s_iload (tb_ok aX8_whom_1 4 rfl) rfl ?_
      refine s_aload_n (tb_ok aX8_whom_1 5 rfl) rfl ?_
      refine s_getI (x := (nI M)) (tb_ok aX8_whom_1 6 rfl) f_RX8_70 rfl rfl h1.mn ?_
      refine s_icmp_ge (tgt := 113) (tb_ok aX8_whom_1 7 rfl) (by decide) (fun c54 => ?_) (fun c54 => ?_)
      · simp (disch := omega) only [nI_ltI, nI_leI, nI_eq] at c54
        omega
      · refine s_aload_n (tb_ok aX8_whom_1 8 rfl) rfl ?_
        refine s_iload (tb_ok aX8_whom_1 9 rfl) rfl ?_
        refine s_iload_n (tb_ok aX8_whom_1 10 rfl) rfl ?_
        refine s_cVp (as := [.int (nI k), .int (nI g)]) (tb_ok aX8_whom_1 11 rfl) v_RX8_372 (R_knowsIt h1 hk _) (by decide) rfl rfl rfl rfl rfl (Nat.le_of_ble_eq_true rfl) (by decide) ?_
        refine s_if_ne (tgt := 77) (tb_ok aX8_whom_1 12 rfl) (by decide) (fun c64 => ?_) (fun c64 => ?_)
        · refine s_iconst (v := -1) (tb_ok aX8_whom_1 18 rfl) (by decide) ?_
          refine s_goto (tgt := 90) (tb_ok aX8_whom_1 19 rfl) (by decide) ?_
          refine s_istore (ls' := [some (.ref 66), some (.int (nI g)), some (.int (nI n)), some (.int (1)), some (.int (mxS (fun k => wlI sem fr fa m (T k) (nI g) (nI d)) (fun k => bshP sem fr fa m M (nI d) T n - bskP sem fr fa m (nI d) (T k) 0 n + bskP sem fr fa m (nI d) (T k) ((1 : Int32) <<< (nI g &&& 31)) n) (bshP sem fr fa m M (nI d) T n) k).1), some (.int (mxS (fun k => wlI sem fr fa m (T k) (nI g) (nI d)) (fun k => bshP sem fr fa m M (nI d) T n - bskP sem fr fa m (nI d) (T k) 0 n + bskP sem fr fa m (nI d) (T k) ((1 : Int32) <<< (nI g &&& 31)) n) (bshP sem fr fa m M (nI d) T n) k).2), some (.int (nI k)), some (.int (-1))]) (tb_ok aX8_whom_2 2 rfl) rfl rfl ?_
          refine s_iload (tb_ok aX8_whom_2 3 rfl) rfl ?_
          refine s_iload (tb_ok aX8_whom_2 4 rfl) rfl ?_
          refine s_icmp_le (tgt := 107) (tb_ok aX8_whom_2 5 rfl) (by decide) (fun c96 => ?_) (fun c96 => ?_)
          · refine s_iinc (v := nI (k + 1)) (ls' := [some (.ref 66), some (.int (nI g)), some (.int (nI n)), some (.int (1)), some (.int (mxS (fun k => wlI sem fr fa m (T k) (nI g) (nI d)) (fun k => bshP sem fr fa m M (nI d) T n - bskP sem fr fa m (nI d) (T k) 0 n + bskP sem fr fa m (nI d) (T k) ((1 : Int32) <<< (nI g &&& 31)) n) (bshP sem fr fa m M (nI d) T n) k).1), some (.int (mxS (fun k => wlI sem fr fa m (T k) (nI g) (nI d)) (fun k => bshP sem fr fa m M (nI d) T n - bskP sem fr fa m (nI d) (T k) 0 n + bskP sem fr fa m (nI d) (T k) ((1 : Int32) <<< (nI g &&& 31)) n) (bshP sem fr fa m M (nI d) T n) k).2), some (.int (nI (k + 1))), some (.int (-1))]) (tb_ok aX8_whom_2 10 rfl) rfl (nI_1 _) rfl rfl ?_
            refine s_goto (tgt := 48) (tb_ok aX8_whom_2 11 rfl) (by decide) ?_
            have hw : ¬ ¬ wlI sem fr fa m (T k) (nI g) (nI d) = 0 := fun h_ => by have h__ := wl_ne.mp h_; first | exact c64 h__.1 | exact h__.2 c74
            refine s_ls ?_ (ih _ _ (some (.int (-1))) hi)
            rw [show (mxS (fun k => wlI sem fr fa m (T k) (nI g) (nI d)) (fun k => bshP sem fr fa m M (nI d) T n - bskP sem fr fa m (nI d) (T k) 0 n + bskP sem fr fa m (nI d) (T k) ((1 : Int32) <<< (nI g &&& 31)) n) (bshP sem fr fa m M (nI d) T n) (k + 1)) = (mxS (fun k => wlI sem fr fa m (T k) (nI g) (nI d)) (fun k => bshP sem fr fa m M (nI d) T n - bskP sem fr fa m (nI d) (T k) 0 n + bskP sem fr fa m (nI d) (T k) ((1 : Int32) <<< (nI g &&& 31)) n) (bshP sem fr fa m M (nI d) T n) k) from if_neg (fun h_ => hw h_.1)]
          · have h0_ := mxS_0 (ok := (fun k => wlI sem fr fa m (T k) (nI g) (nI d))) (v := (fun k => bshP sem fr fa m M (nI d) T n - bskP sem fr fa m (nI d) (T k) 0 n + bskP sem fr fa m (nI d) (T k) ((1 : Int32) <<< (nI g &&& 31)) n)) hm0 k
            exact absurd (Int32.le_trans (by decide) h0_) c96
        · refine s_aload_n (tb_ok aX8_whom_1 13 rfl) rfl ?_
          refine s_iload (tb_ok aX8_whom_1 14 rfl) rfl ?_
          refine s_iload_n (tb_ok aX8_whom_1 15 rfl) rfl ?_
          refine s_cV (as := [.int (nI k), .int (nI g)]) (tb_ok aX8_whom_1 16 rfl) v_RX8_375 (R_takes h1 hk _) (by decide) rfl rfl rfl rfl rfl (Nat.le_of_ble_eq_true rfl) (by decide) (fun r1 S1 I1 L1 R1 q1 => ?_)
          obtain ⟨rfl, rfl, rfl, hf6⟩ := q1
          have h6 := RSt.see h1 (see_eS hf6)
          refine s_if_ne (tgt := 81) (tb_ok aX8_whom_1 17 rfl) (by decide) (fun c74 => ?_) (fun c74 => ?_)
          · refine s_aload_n (tb_ok aX8_whom_1 20 rfl) rfl ?_
            refine s_iload (tb_ok aX8_whom_1 21 rfl) rfl ?_
            refine s_iload_n (tb_ok aX8_whom_1 22 rfl) rfl ?_
            refine s_iload_n (tb_ok aX8_whom_1 23 rfl) rfl ?_
            refine s_iconst (v := 1) (tb_ok aX8_whom_2 0 rfl) (by decide) ?_
            refine s_cV (as := [.int (nI k), .int (nI g), .int (nI n), .int (1)]) (tb_ok aX8_whom_2 1 rfl) v_RX8_406 (R_bskAH h6 hd hk hg hn) (by decide) rfl rfl rfl rfl rfl (Nat.le_of_ble_eq_true rfl) (by decide) (fun r2 S2 I2 L2 R2 q2 => ?_)
            obtain ⟨rfl, rfl, rfl, hf4⟩ := q2
            refine s_name (fun x1 ex1 => ?_)
            refine s_istore (ls' := [some (.ref 66), some (.int (nI g)), some (.int (nI n)), some (.int (1)), some (.int (mxS (fun k => wlI sem fr fa m (T k) (nI g) (nI d)) (fun k => bshP sem fr fa m M (nI d) T n - bskP sem fr fa m (nI d) (T k) 0 n + bskP sem fr fa m (nI d) (T k) ((1 : Int32) <<< (nI g &&& 31)) n) (bshP sem fr fa m M (nI d) T n) k).1), some (.int (mxS (fun k => wlI sem fr fa m (T k) (nI g) (nI d)) (fun k => bshP sem fr fa m M (nI d) T n - bskP sem fr fa m (nI d) (T k) 0 n + bskP sem fr fa m (nI d) (T k) ((1 : Int32) <<< (nI g &&& 31)) n) (bshP sem fr fa m M (nI d) T n) k).2), some (.int (nI k)), some (.int x1)]) (tb_ok aX8_whom_2 2 rfl) rfl rfl ?_
            refine s_iload (tb_ok aX8_whom_2 3 rfl) rfl ?_
            refine s_iload (tb_ok aX8_whom_2 4 rfl) rfl ?_
            refine s_icmp_le (tgt := 107) (tb_ok aX8_whom_2 5 rfl) (by decide) (fun c96 => ?_) (fun c96 => ?_)
            · refine s_iinc (v := nI (k + 1)) (ls' := [some (.ref 66), some (.int (nI g)), some (.int (nI n)), some (.int (1)), some (.int (mxS (fun k => wlI sem fr fa m (T k) (nI g) (nI d)) (fun k => bshP sem fr fa m M (nI d) T n - bskP sem fr fa m (nI d) (T k) 0 n + bskP sem fr fa m (nI d) (T k) ((1 : Int32) <<< (nI g &&& 31)) n) (bshP sem fr fa m M (nI d) T n) k).1), some (.int (mxS (fun k => wlI sem fr fa m (T k) (nI g) (nI d)) (fun k => bshP sem fr fa m M (nI d) T n - bskP sem fr fa m (nI d) (T k) 0 n + bskP sem fr fa m (nI d) (T k) ((1 : Int32) <<< (nI g &&& 31)) n) (bshP sem fr fa m M (nI d) T n) k).2), some (.int (nI (k + 1))), some (.int x1)]) (tb_ok aX8_whom_2 10 rfl) rfl (nI_1 _) rfl rfl ?_
              refine s_goto (tgt := 48) (tb_ok aX8_whom_2 11 rfl) (by decide) ?_
              have hw : ¬ wlI sem fr fa m (T k) (nI g) (nI d) = 0 := wl_ne.mpr ⟨c64, c74⟩
              have ev : x1 = bshP sem fr fa m M (nI d) T n - bskP sem fr fa m (nI d) (T k) 0 n + bskP sem fr fa m (nI d) (T k) ((1 : Int32) <<< (nI g &&& 31)) n := by rw [ex1]; exact whm_v hk hM5 (hea_yes hw)
              refine s_ls ?_ (ih _ _ (some (.int x1)) ((hf4.trans (eS_eB hf6)).trans hi))
              rw [ev] at c96
              rw [show (mxS (fun k => wlI sem fr fa m (T k) (nI g) (nI d)) (fun k => bshP sem fr fa m M (nI d) T n - bskP sem fr fa m (nI d) (T k) 0 n + bskP sem fr fa m (nI d) (T k) ((1 : Int32) <<< (nI g &&& 31)) n) (bshP sem fr fa m M (nI d) T n) (k + 1)) = (mxS (fun k => wlI sem fr fa m (T k) (nI g) (nI d)) (fun k => bshP sem fr fa m M (nI d) T n - bskP sem fr fa m (nI d) (T k) 0 n + bskP sem fr fa m (nI d) (T k) ((1 : Int32) <<< (nI g &&& 31)) n) (bshP sem fr fa m M (nI d) T n) k) from if_neg (fun h_ => Int32.not_lt.mpr c96 h_.2)]
            · refine s_iload (tb_ok aX8_whom_2 6 rfl) rfl ?_
              refine s_istore (ls' := [some (.ref 66), some (.int (nI g)), some (.int (nI n)), some (.int (1)), some (.int (nI k)), some (.int (mxS (fun k => wlI sem fr fa m (T k) (nI g) (nI d)) (fun k => bshP sem fr fa m M (nI d) T n - bskP sem fr fa m (nI d) (T k) 0 n + bskP sem fr fa m (nI d) (T k) ((1 : Int32) <<< (nI g &&& 31)) n) (bshP sem fr fa m M (nI d) T n) k).2), some (.int (nI k)), some (.int x1)]) (tb_ok aX8_whom_2 7 rfl) rfl rfl ?_
              refine s_iload (tb_ok aX8_whom_2 8 rfl) rfl ?_
              refine s_istore (ls' := [some (.ref 66), some (.int (nI g)), some (.int (nI n)), some (.int (1)), some (.int (nI k)), some (.int x1), some (.int (nI k)), some (.int x1)]) (tb_ok aX8_whom_2 9 rfl) rfl rfl ?_
              refine s_iinc (v := nI (k + 1)) (ls' := [some (.ref 66), some (.int (nI g)), some (.int (nI n)), some (.int (1)), some (.int (nI k)), some (.int x1), some (.int (nI (k + 1))), some (.int x1)]) (tb_ok aX8_whom_2 10 rfl) rfl (nI_1 _) rfl rfl ?_
              refine s_goto (tgt := 48) (tb_ok aX8_whom_2 11 rfl) (by decide) ?_
              have hw : ¬ wlI sem fr fa m (T k) (nI g) (nI d) = 0 := wl_ne.mpr ⟨c64, c74⟩
              have ev : x1 = bshP sem fr fa m M (nI d) T n - bskP sem fr fa m (nI d) (T k) 0 n + bskP sem fr fa m (nI d) (T k) ((1 : Int32) <<< (nI g &&& 31)) n := by rw [ex1]; exact whm_v hk hM5 (hea_yes hw)
              refine s_ls ?_ (ih _ _ (some (.int x1)) ((hf4.trans (eS_eB hf6)).trans hi))
              rw [ev] at c96
              rw [show (mxS (fun k => wlI sem fr fa m (T k) (nI g) (nI d)) (fun k => bshP sem fr fa m M (nI d) T n - bskP sem fr fa m (nI d) (T k) 0 n + bskP sem fr fa m (nI d) (T k) ((1 : Int32) <<< (nI g &&& 31)) n) (bshP sem fr fa m M (nI d) T n) (k + 1)) = (nI k, bshP sem fr fa m M (nI d) T n - bskP sem fr fa m (nI d) (T k) 0 n + bskP sem fr fa m (nI d) (T k) ((1 : Int32) <<< (nI g &&& 31)) n) from if_pos ⟨hw, Int32.not_le.mp c96⟩, ev]
          · refine s_iconst (v := -1) (tb_ok aX8_whom_1 18 rfl) (by decide) ?_
            refine s_goto (tgt := 90) (tb_ok aX8_whom_1 19 rfl) (by decide) ?_
            refine s_istore (ls' := [some (.ref 66), some (.int (nI g)), some (.int (nI n)), some (.int (1)), some (.int (mxS (fun k => wlI sem fr fa m (T k) (nI g) (nI d)) (fun k => bshP sem fr fa m M (nI d) T n - bskP sem fr fa m (nI d) (T k) 0 n + bskP sem fr fa m (nI d) (T k) ((1 : Int32) <<< (nI g &&& 31)) n) (bshP sem fr fa m M (nI d) T n) k).1), some (.int (mxS (fun k => wlI sem fr fa m (T k) (nI g) (nI d)) (fun k => bshP sem fr fa m M (nI d) T n - bskP sem fr fa m (nI d) (T k) 0 n + bskP sem fr fa m (nI d) (T k) ((1 : Int32) <<< (nI g &&& 31)) n) (bshP sem fr fa m M (nI d) T n) k).2), some (.int (nI k)), some (.int (-1))]) (tb_ok aX8_whom_2 2 rfl) rfl rfl ?_
            refine s_iload (tb_ok aX8_whom_2 3 rfl) rfl ?_
            refine s_iload (tb_ok aX8_whom_2 4 rfl) rfl ?_
            refine s_icmp_le (tgt := 107) (tb_ok aX8_whom_2 5 rfl) (by decide) (fun c96 => ?_) (fun c96 => ?_)
            · refine s_iinc (v := nI (k + 1)) (ls' := [some (.ref 66), some (.int (nI g)), some (.int (nI n)), some (.int (1)), some (.int (mxS (fun k => wlI sem fr fa m (T k) (nI g) (nI d)) (fun k => bshP sem fr fa m M (nI d) T n - bskP sem fr fa m (nI d) (T k) 0 n + bskP sem fr fa m (nI d) (T k) ((1 : Int32) <<< (nI g &&& 31)) n) (bshP sem fr fa m M (nI d) T n) k).1), some (.int (mxS (fun k => wlI sem fr fa m (T k) (nI g) (nI d)) (fun k => bshP sem fr fa m M (nI d) T n - bskP sem fr fa m (nI d) (T k) 0 n + bskP sem fr fa m (nI d) (T k) ((1 : Int32) <<< (nI g &&& 31)) n) (bshP sem fr fa m M (nI d) T n) k).2), some (.int (nI (k + 1))), some (.int (-1))]) (tb_ok aX8_whom_2 10 rfl) rfl (nI_1 _) rfl rfl ?_
              refine s_goto (tgt := 48) (tb_ok aX8_whom_2 11 rfl) (by decide) ?_
              have hw : ¬ ¬ wlI sem fr fa m (T k) (nI g) (nI d) = 0 := fun h_ => by have h__ := wl_ne.mp h_; first | exact c64 h__.1 | exact h__.2 c74
              refine s_ls ?_ (ih _ _ (some (.int (-1))) ((eS_eB hf6).trans hi))
              rw [show (mxS (fun k => wlI sem fr fa m (T k) (nI g) (nI d)) (fun k => bshP sem fr fa m M (nI d) T n - bskP sem fr fa m (nI d) (T k) 0 n + bskP sem fr fa m (nI d) (T k) ((1 : Int32) <<< (nI g &&& 31)) n) (bshP sem fr fa m M (nI d) T n) (k + 1)) = (mxS (fun k => wlI sem fr fa m (T k) (nI g) (nI d)) (fun k => bshP sem fr fa m M (nI d) T n - bskP sem fr fa m (nI d) (T k) 0 n + bskP sem fr fa m (nI d) (T k) ((1 : Int32) <<< (nI g &&& 31)) n) (bshP sem fr fa m M (nI d) T n) k) from if_neg (fun h_ => hw h_.1)]
            · have h0_ := mxS_0 (ok := (fun k => wlI sem fr fa m (T k) (nI g) (nI d))) (v := (fun k => bshP sem fr fa m M (nI d) T n - bskP sem fr fa m (nI d) (T k) 0 n + bskP sem fr fa m (nI d) (T k) ((1 : Int32) <<< (nI g &&& 31)) n)) hm0 k
              exact absurd (Int32.le_trans (by decide) h0_) c96
  refine ev_of (by decide +kernel) rfl ?_
  show SW X _ _ _ 0 [some (.ref 66), some (.int (nI g)), some (.int (nI n)), some (.int (1)), none, none, none, none] [] S0 I L (R0 q) _
  refine s_iload_n (tb_ok aX8_whom_0 0 rfl) rfl ?_
  refine s_cSp (as := [.int (nI g)]) (tb_ok aX8_whom_0 1 rfl) v_RX8_81 (R_isFact _) (by decide) rfl rfl (Nat.le_of_ble_eq_true rfl) ?_
  refine s_topi (bI_t (inN (n := g) (hi := 11) (by omega) (by decide))) ?_
  refine s_if_eq (tgt := 29) (tb_ok aX8_whom_0 2 rfl) (by decide) (fun c4 => ?_) (fun c4 => ?_)
  · exact absurd c4 (by decide)
  · refine s_iload_n (tb_ok aX8_whom_0 3 rfl) rfl ?_
    refine s_i2l (tb_ok aX8_whom_0 4 rfl) ?_
    refine s_lconst (v := 0) (tb_ok aX8_whom_0 5 rfl) (by decide) ?_
    refine s_ldc2 (tb_ok aX8_whom_0 6 rfl) k_RX8_387 ?_
    refine s_cSp (as := [_, .long (0), .long (40)]) (tb_ok aX8_whom_0 7 rfl) v_RX8_73 (R_in _ _ _) (by decide) rfl rfl (Nat.le_of_ble_eq_true rfl) ?_
    refine s_topi (bI_t ((in_iff (x := nI n) (lo := 0) (hi := 40) rfl (by decide) (by decide)).mpr (inN (hi := 40) hn (by decide)))) ?_
    refine s_if_eq (tgt := 29) (tb_ok aX8_whom_0 8 rfl) (by decide) (fun c16 => ?_) (fun c16 => ?_)
    · exact absurd c16 (by decide)
    · refine s_iload_n (tb_ok aX8_whom_0 9 rfl) rfl ?_
      refine s_i2l (tb_ok aX8_whom_0 10 rfl) ?_
      refine s_lconst (v := 0) (tb_ok aX8_whom_0 11 rfl) (by decide) ?_
      refine s_lconst (v := 1) (tb_ok aX8_whom_0 12 rfl) (by decide) ?_
      refine s_cSp (as := [_, .long (0), .long (1)]) (tb_ok aX8_whom_0 13 rfl) v_RX8_73 (R_in _ _ _) (by decide) rfl rfl (Nat.le_of_ble_eq_true rfl) ?_
      refine s_topi (bI_t (by decide)) ?_
      refine s_if_ne (tgt := 32) (tb_ok aX8_whom_0 14 rfl) (by decide) (fun c26 => ?_) (fun c26 => ?_)
      · refine s_iconst (v := -1) (tb_ok aX8_whom_0 17 rfl) (by decide) ?_
        refine s_istore (ls' := [some (.ref 66), some (.int (nI g)), some (.int (nI n)), some (.int (1)), some (.int (-1)), none, none, none]) (tb_ok aX8_whom_0 18 rfl) rfl rfl ?_
        refine s_aload_n (tb_ok aX8_whom_0 19 rfl) rfl ?_
        refine s_iconst (v := 0) (tb_ok aX8_whom_0 20 rfl) (by decide) ?_
        refine s_iconst (v := -1) (tb_ok aX8_whom_0 21 rfl) (by decide) ?_
        refine s_iload_n (tb_ok aX8_whom_0 22 rfl) rfl ?_
        refine s_iconst (v := 1) (tb_ok aX8_whom_0 23 rfl) (by decide) ?_
        refine s_cV (as := [.int (0), .int (-1), .int (nI n), .int (1)]) (tb_ok aX8_whom_1 0 rfl) v_RX8_406 (R_bskA h hd hn) (by decide) rfl rfl rfl rfl rfl (Nat.le_of_ble_eq_true rfl) (by decide) (fun r1 S1 I1 L1 R1 q1 => ?_)
        obtain ⟨rfl, rfl, rfl, hf4⟩ := q1
        refine s_name (fun x1 ex1 => ?_)
        refine s_istore (ls' := [some (.ref 66), some (.int (nI g)), some (.int (nI n)), some (.int (1)), some (.int (-1)), some (.int x1), none, none]) (tb_ok aX8_whom_1 1 rfl) rfl rfl ?_
        refine s_iconst (v := nI 0) (tb_ok aX8_whom_1 2 rfl) (by decide) ?_
        refine s_istore (ls' := [some (.ref 66), some (.int (nI g)), some (.int (nI n)), some (.int (1)), some (.int (-1)), some (.int x1), some (.int (nI 0)), none]) (tb_ok aX8_whom_1 3 rfl) rfl rfl ?_
        have e0 : x1 = bshP sem fr fa m M (nI d) T n := ex1
        subst e0
        exact loop 0 (Nat.zero_le _) _ _ _ hf4
      · exact absurd c26 (by decide)

set_option maxRecDepth 100000 in
set_option maxHeartbeats 1000000 in
theorem R_whomB {X : En} {L : FL} {q : Nat × Nat} {I : FI} {m : Nat} {fr fa : Nat → Int32} {M : Nat} {T : Nat → Nat → Int32} {d : Nat} {sem : Nat → Sem} (h : RSt I m fr fa M T d sem) {x z w : Int32} (hv : ¬ ((¬ x < 0 ∧ ¬ 11 < x) ∧ (¬ z < 0 ∧ ¬ 40 < z) ∧ (¬ w < 0 ∧ ¬ 1 < w))) : Ev X 60 mX8_whom (0, 0) [.ref 66, .int x, .int z, .int w] S0 I L (R0 q) (AfZ q eB I (-2)) := by
  have hM5 := h.M5
  refine ev_of (by decide +kernel) rfl ?_
  show SW X _ _ _ 0 [some (.ref 66), some (.int x), some (.int z), some (.int w), none, none, none, none] [] S0 I L (R0 q) _
  refine s_iload_n (tb_ok aX8_whom_0 0 rfl) rfl ?_
  refine s_cSp (as := [.int x]) (tb_ok aX8_whom_0 1 rfl) v_RX8_81 (R_isFact _) (by decide) rfl rfl (Nat.le_of_ble_eq_true rfl) ?_
  refine s_if_eq (tgt := 29) (tb_ok aX8_whom_0 2 rfl) (by decide) (fun c4 => ?_) (fun c4 => ?_)
  · refine s_bipush (v := -2) (tb_ok aX8_whom_0 15 rfl) (by decide) ?_
    refine s_iret (tb_ok aX8_whom_0 16 rfl) rfl ?_
    exact afZ rfl FrE.refl
  · refine s_iload_n (tb_ok aX8_whom_0 3 rfl) rfl ?_
    refine s_i2l (tb_ok aX8_whom_0 4 rfl) ?_
    refine s_lconst (v := 0) (tb_ok aX8_whom_0 5 rfl) (by decide) ?_
    refine s_ldc2 (tb_ok aX8_whom_0 6 rfl) k_RX8_387 ?_
    refine s_cSp (as := [_, .long (0), .long (40)]) (tb_ok aX8_whom_0 7 rfl) v_RX8_73 (R_in _ _ _) (by decide) rfl rfl (Nat.le_of_ble_eq_true rfl) ?_
    refine s_topi (bI_congr (in_iff (lo := 0) (hi := 40) rfl (by decide) (by decide))) ?_
    refine s_if_eq (tgt := 29) (tb_ok aX8_whom_0 8 rfl) (by decide) (fun c16 => ?_) (fun c16 => ?_)
    · refine s_bipush (v := -2) (tb_ok aX8_whom_0 15 rfl) (by decide) ?_
      refine s_iret (tb_ok aX8_whom_0 16 rfl) rfl ?_
      exact afZ rfl FrE.refl
    · refine s_iload_n (tb_ok aX8_whom_0 9 rfl) rfl ?_
      refine s_i2l (tb_ok aX8_whom_0 10 rfl) ?_
      refine s_lconst (v := 0) (tb_ok aX8_whom_0 11 rfl) (by decide) ?_
      refine s_lconst (v := 1) (tb_ok aX8_whom_0 12 rfl) (by decide) ?_
      refine s_cSp (as := [_, .long (0), .long (1)]) (tb_ok aX8_whom_0 13 rfl) v_RX8_73 (R_in _ _ _) (by decide) rfl rfl (Nat.le_of_ble_eq_true rfl) ?_
      refine s_topi (bI_congr (in_iff (lo := 0) (hi := 1) rfl (by decide) (by decide))) ?_
      refine s_if_ne (tgt := 32) (tb_ok aX8_whom_0 14 rfl) (by decide) (fun c26 => ?_) (fun c26 => ?_)
      · exact absurd ⟨bI_n c4, bI_n c16, bI_n c26⟩ hv
      · refine s_bipush (v := -2) (tb_ok aX8_whom_0 15 rfl) (by decide) ?_
        refine s_iret (tb_ok aX8_whom_0 16 rfl) rfl ?_
        exact afZ rfl FrE.refl

set_option maxRecDepth 100000 in
set_option maxHeartbeats 1000000 in
theorem R_over0 {X : En} {S : Sh} {I : FI} {L : FL} {R : FR} : Ev X 0 mX8_over (0, 0) [.int (0)] S I L R (PureR (some (.int (-1))) S I L R) := by
  refine ev_of (by decide +kernel) rfl ?_
  show SW X _ _ _ 0 [some (.int (0))] [] S I L R _
  refine s_iload_n (tb_ok aX8_over_0 0 rfl) rfl ?_
  refine s_if_ne (tgt := 8) (tb_ok aX8_over_0 1 rfl) (by decide) (fun c1 => ?_) (fun c1 => ?_)
  · exact absurd c1 (by decide)
  · refine s_iconst (v := -1) (tb_ok aX8_over_0 2 rfl) (by decide) ?_
    refine s_goto (tgt := 27) (tb_ok aX8_over_0 3 rfl) (by decide) ?_
    refine s_iret (tb_ok aX8_over_0 15 rfl) rfl ?_
    exact pureR

set_option maxRecDepth 100000 in
set_option maxHeartbeats 1000000 in
theorem R_over1 {X : En} {S : Sh} {I : FI} {L : FL} {R : FR} : Ev X 0 mX8_over (0, 0) [.int (1)] S I L R (PureR (some (.int (0))) S I L R) := by
  refine ev_of (by decide +kernel) rfl ?_
  show SW X _ _ _ 0 [some (.int (1))] [] S I L R _
  refine s_iload_n (tb_ok aX8_over_0 0 rfl) rfl ?_
  refine s_if_ne (tgt := 8) (tb_ok aX8_over_0 1 rfl) (by decide) (fun c1 => ?_) (fun c1 => ?_)
  · refine s_iload_n (tb_ok aX8_over_0 4 rfl) rfl ?_
    refine s_iconst (v := 3) (tb_ok aX8_over_0 5 rfl) (by decide) ?_
    refine s_icmp_ne (tgt := 17) (tb_ok aX8_over_0 6 rfl) (by decide) (fun c10 => ?_) (fun c10 => ?_)
    · refine s_iload_n (tb_ok aX8_over_0 9 rfl) rfl ?_
      refine s_iconst (v := 4) (tb_ok aX8_over_0 10 rfl) (by decide) ?_
      refine s_icmp_ne (tgt := 26) (tb_ok aX8_over_0 11 rfl) (by decide) (fun c19 => ?_) (fun c19 => ?_)
      · refine s_iconst (v := 0) (tb_ok aX8_over_0 14 rfl) (by decide) ?_
        refine s_iret (tb_ok aX8_over_0 15 rfl) rfl ?_
        exact pureR
      · exact absurd c19 (by decide)
    · exact absurd c10 (by decide)
  · exact absurd c1 (by decide)

set_option maxRecDepth 100000 in
set_option maxHeartbeats 1000000 in
theorem R_over2 {X : En} {S : Sh} {I : FI} {L : FL} {R : FR} : Ev X 0 mX8_over (0, 0) [.int (2)] S I L R (PureR (some (.int (0))) S I L R) := by
  refine ev_of (by decide +kernel) rfl ?_
  show SW X _ _ _ 0 [some (.int (2))] [] S I L R _
  refine s_iload_n (tb_ok aX8_over_0 0 rfl) rfl ?_
  refine s_if_ne (tgt := 8) (tb_ok aX8_over_0 1 rfl) (by decide) (fun c1 => ?_) (fun c1 => ?_)
  · refine s_iload_n (tb_ok aX8_over_0 4 rfl) rfl ?_
    refine s_iconst (v := 3) (tb_ok aX8_over_0 5 rfl) (by decide) ?_
    refine s_icmp_ne (tgt := 17) (tb_ok aX8_over_0 6 rfl) (by decide) (fun c10 => ?_) (fun c10 => ?_)
    · refine s_iload_n (tb_ok aX8_over_0 9 rfl) rfl ?_
      refine s_iconst (v := 4) (tb_ok aX8_over_0 10 rfl) (by decide) ?_
      refine s_icmp_ne (tgt := 26) (tb_ok aX8_over_0 11 rfl) (by decide) (fun c19 => ?_) (fun c19 => ?_)
      · refine s_iconst (v := 0) (tb_ok aX8_over_0 14 rfl) (by decide) ?_
        refine s_iret (tb_ok aX8_over_0 15 rfl) rfl ?_
        exact pureR
      · exact absurd c19 (by decide)
    · exact absurd c10 (by decide)
  · exact absurd c1 (by decide)

set_option maxRecDepth 100000 in
set_option maxHeartbeats 1000000 in
theorem R_over3 {X : En} {S : Sh} {I : FI} {L : FL} {R : FR} : Ev X 0 mX8_over (0, 0) [.int (3)] S I L R (PureR (some (.int (1))) S I L R) := by
  refine ev_of (by decide +kernel) rfl ?_
  show SW X _ _ _ 0 [some (.int (3))] [] S I L R _
  refine s_iload_n (tb_ok aX8_over_0 0 rfl) rfl ?_
  refine s_if_ne (tgt := 8) (tb_ok aX8_over_0 1 rfl) (by decide) (fun c1 => ?_) (fun c1 => ?_)
  · refine s_iload_n (tb_ok aX8_over_0 4 rfl) rfl ?_
    refine s_iconst (v := 3) (tb_ok aX8_over_0 5 rfl) (by decide) ?_
    refine s_icmp_ne (tgt := 17) (tb_ok aX8_over_0 6 rfl) (by decide) (fun c10 => ?_) (fun c10 => ?_)
    · exact absurd c10 (by decide)
    · refine s_iconst (v := 1) (tb_ok aX8_over_0 7 rfl) (by decide) ?_
      refine s_goto (tgt := 27) (tb_ok aX8_over_0 8 rfl) (by decide) ?_
      refine s_iret (tb_ok aX8_over_0 15 rfl) rfl ?_
      exact pureR
  · exact absurd c1 (by decide)

set_option maxRecDepth 100000 in
set_option maxHeartbeats 1000000 in
theorem R_over4 {X : En} {S : Sh} {I : FI} {L : FL} {R : FR} : Ev X 0 mX8_over (0, 0) [.int (4)] S I L R (PureR (some (.int (2))) S I L R) := by
  refine ev_of (by decide +kernel) rfl ?_
  show SW X _ _ _ 0 [some (.int (4))] [] S I L R _
  refine s_iload_n (tb_ok aX8_over_0 0 rfl) rfl ?_
  refine s_if_ne (tgt := 8) (tb_ok aX8_over_0 1 rfl) (by decide) (fun c1 => ?_) (fun c1 => ?_)
  · refine s_iload_n (tb_ok aX8_over_0 4 rfl) rfl ?_
    refine s_iconst (v := 3) (tb_ok aX8_over_0 5 rfl) (by decide) ?_
    refine s_icmp_ne (tgt := 17) (tb_ok aX8_over_0 6 rfl) (by decide) (fun c10 => ?_) (fun c10 => ?_)
    · refine s_iload_n (tb_ok aX8_over_0 9 rfl) rfl ?_
      refine s_iconst (v := 4) (tb_ok aX8_over_0 10 rfl) (by decide) ?_
      refine s_icmp_ne (tgt := 26) (tb_ok aX8_over_0 11 rfl) (by decide) (fun c19 => ?_) (fun c19 => ?_)
      · exact absurd c19 (by decide)
      · refine s_iconst (v := 2) (tb_ok aX8_over_0 12 rfl) (by decide) ?_
        refine s_goto (tgt := 27) (tb_ok aX8_over_0 13 rfl) (by decide) ?_
        refine s_iret (tb_ok aX8_over_0 15 rfl) rfl ?_
        exact pureR
    · exact absurd c10 (by decide)
  · exact absurd c1 (by decide)

set_option maxRecDepth 100000 in
set_option maxHeartbeats 1000000 in
theorem R_over5 {X : En} {S : Sh} {I : FI} {L : FL} {R : FR} : Ev X 0 mX8_over (0, 0) [.int (5)] S I L R (PureR (some (.int (0))) S I L R) := by
  refine ev_of (by decide +kernel) rfl ?_
  show SW X _ _ _ 0 [some (.int (5))] [] S I L R _
  refine s_iload_n (tb_ok aX8_over_0 0 rfl) rfl ?_
  refine s_if_ne (tgt := 8) (tb_ok aX8_over_0 1 rfl) (by decide) (fun c1 => ?_) (fun c1 => ?_)
  · refine s_iload_n (tb_ok aX8_over_0 4 rfl) rfl ?_
    refine s_iconst (v := 3) (tb_ok aX8_over_0 5 rfl) (by decide) ?_
    refine s_icmp_ne (tgt := 17) (tb_ok aX8_over_0 6 rfl) (by decide) (fun c10 => ?_) (fun c10 => ?_)
    · refine s_iload_n (tb_ok aX8_over_0 9 rfl) rfl ?_
      refine s_iconst (v := 4) (tb_ok aX8_over_0 10 rfl) (by decide) ?_
      refine s_icmp_ne (tgt := 26) (tb_ok aX8_over_0 11 rfl) (by decide) (fun c19 => ?_) (fun c19 => ?_)
      · refine s_iconst (v := 0) (tb_ok aX8_over_0 14 rfl) (by decide) ?_
        refine s_iret (tb_ok aX8_over_0 15 rfl) rfl ?_
        exact pureR
      · exact absurd c19 (by decide)
    · exact absurd c10 (by decide)
  · exact absurd c1 (by decide)

set_option maxRecDepth 100000 in
set_option maxHeartbeats 1000000 in
theorem R_take0_0 {X : En} {L : FL} {q : Nat × Nat} {I : FI} {m : Nat} {fr fa : Nat → Int32} {M : Nat} {T : Nat → Nat → Int32} {d : Nat} {sem : Nat → Sem} (h : RSt I m fr fa M T d sem) {j : Nat} (hj : j < M) (hk : T j 0 = 0) : Ev X 60 mX8_taken (0, 0) [.ref 66, .int (nI j), .int (0)] S0 I L (R0 q) (AfZ q eB I (if isoF 0 6 (T j 0) = 1 then T j 1 else -13)) := by
  have hM5 := h.M5
  refine ev_of (by decide +kernel) rfl ?_
  show SW X _ _ _ 0 [some (.ref 66), some (.int (nI j)), some (.int (0)), none] [] S0 I L (R0 q) _
  refine s_iload_n (tb_ok aX8_taken_0 0 rfl) rfl ?_
  refine s_i2l (tb_ok aX8_taken_0 1 rfl) ?_
  refine s_lconst (v := 0) (tb_ok aX8_taken_0 2 rfl) (by decide) ?_
  refine s_ldc2 (tb_ok aX8_taken_0 3 rfl) k_RX8_111 ?_
  refine s_cSp (as := [_, .long (0), .long (5)]) (tb_ok aX8_taken_0 4 rfl) v_RX8_73 (R_in _ _ _) (by decide) rfl rfl (Nat.le_of_ble_eq_true rfl) ?_
  refine s_topi (bI_t (by decide)) ?_
  refine s_if_ne (tgt := 15) (tb_ok aX8_taken_0 5 rfl) (by decide) (fun c9 => ?_) (fun c9 => ?_)
  · refine s_aload_n (tb_ok aX8_taken_0 8 rfl) rfl ?_
    refine s_iload_n (tb_ok aX8_taken_0 9 rfl) rfl ?_
    refine s_cVp (as := [.int (nI j)]) (tb_ok aX8_taken_0 10 rfl) v_RX8_90 (R_isHouse h.mn _) (by decide) rfl rfl rfl rfl rfl (Nat.le_of_ble_eq_true rfl) (by decide) ?_
    refine s_topi (bI_t (vH_t hj hM5)) ?_
    refine s_if_ne (tgt := 26) (tb_ok aX8_taken_0 11 rfl) (by decide) (fun c20 => ?_) (fun c20 => ?_)
    · refine s_aload_n (tb_ok aX8_taken_0 14 rfl) rfl ?_
      refine s_getR (r := 72) (tb_ok aX8_taken_0 15 rfl) f_RX8_29 rfl rfl rfl ?_
      refine s_iload_n (tb_ok aX8_taken_0 16 rfl) rfl ?_
      refine s_ialdX (x := (0)) (tb_ok aX8_taken_0 17 rfl) rfl (by omega) (by decide) ((h.c0 hj).trans hk) ?_
      refine s_istore_n (ls' := [some (.ref 66), some (.int (nI j)), some (.int (0)), some (.int (0))]) (tb_ok aX8_taken_0 18 rfl) rfl rfl ?_
      refine s_iload_n (tb_ok aX8_taken_0 19 rfl) rfl ?_
      refine s_iconst (v := -1) (tb_ok aX8_taken_0 20 rfl) (by decide) ?_
      refine s_icmp_eq (tgt := 51) (tb_ok aX8_taken_0 21 rfl) (by decide) (fun c35 => ?_) (fun c35 => ?_)
      · exact absurd c35 (by decide)
      · refine s_iload_n (tb_ok aX8_taken_0 22 rfl) rfl ?_
        refine s_iload_n (tb_ok aX8_taken_0 23 rfl) rfl ?_
        refine s_icmp_eq (tgt := 51) (tb_ok aX8_taken_1 0 rfl) (by decide) (fun c40 => ?_) (fun c40 => ?_)
        · refine s_iload_n (tb_ok aX8_taken_1 5 rfl) rfl ?_
          refine s_iload_n (tb_ok aX8_taken_1 6 rfl) rfl ?_
          refine s_icmp_ne (tgt := 67) (tb_ok aX8_taken_1 7 rfl) (by decide) (fun c53 => ?_) (fun c53 => ?_)
          · exact absurd c53 (by decide)
          · refine s_aload_n (tb_ok aX8_taken_1 8 rfl) rfl ?_
            refine s_getR (r := 73) (tb_ok aX8_taken_1 9 rfl) f_RX8_32 rfl rfl rfl ?_
            refine s_iconst (v := 4) (tb_ok aX8_taken_1 10 rfl) (by decide) ?_
            refine s_iload_n (tb_ok aX8_taken_1 11 rfl) rfl ?_
            refine s_imul (tb_ok aX8_taken_1 12 rfl) ?_
            refine s_topi (z := (nI (4 * j))) (nI_mul 4 j) ?_
            refine s_ialdX (x := (T j 1)) (tb_ok aX8_taken_1 13 rfl) rfl (by omega) (by decide) (h.c1 hj) ?_
            refine s_goto (tgt := 69) (tb_ok aX8_taken_1 14 rfl) (by decide) ?_
            refine s_iret (tb_ok aX8_taken_1 16 rfl) rfl ?_
            exact afZ (by rw [hk]; rfl) FrE.refl
        · exact absurd c40 (by decide)
    · exact absurd c20 (by decide)
  · exact absurd c9 (by decide)

set_option maxRecDepth 100000 in
set_option maxHeartbeats 1000000 in
theorem R_take0_1 {X : En} {L : FL} {q : Nat × Nat} {I : FI} {m : Nat} {fr fa : Nat → Int32} {M : Nat} {T : Nat → Nat → Int32} {d : Nat} {sem : Nat → Sem} (h : RSt I m fr fa M T d sem) {j : Nat} (hj : j < M) (hk : T j 0 = 0) : Ev X 60 mX8_taken (0, 0) [.ref 66, .int (nI j), .int (1)] S0 I L (R0 q) (AfZ q eB I (if isoF 1 6 (T j 0) = 1 then T j 1 else -13)) := by
  have hM5 := h.M5
  refine ev_of (by decide +kernel) rfl ?_
  show SW X _ _ _ 0 [some (.ref 66), some (.int (nI j)), some (.int (1)), none] [] S0 I L (R0 q) _
  refine s_iload_n (tb_ok aX8_taken_0 0 rfl) rfl ?_
  refine s_i2l (tb_ok aX8_taken_0 1 rfl) ?_
  refine s_lconst (v := 0) (tb_ok aX8_taken_0 2 rfl) (by decide) ?_
  refine s_ldc2 (tb_ok aX8_taken_0 3 rfl) k_RX8_111 ?_
  refine s_cSp (as := [_, .long (0), .long (5)]) (tb_ok aX8_taken_0 4 rfl) v_RX8_73 (R_in _ _ _) (by decide) rfl rfl (Nat.le_of_ble_eq_true rfl) ?_
  refine s_topi (bI_t (by decide)) ?_
  refine s_if_ne (tgt := 15) (tb_ok aX8_taken_0 5 rfl) (by decide) (fun c9 => ?_) (fun c9 => ?_)
  · refine s_aload_n (tb_ok aX8_taken_0 8 rfl) rfl ?_
    refine s_iload_n (tb_ok aX8_taken_0 9 rfl) rfl ?_
    refine s_cVp (as := [.int (nI j)]) (tb_ok aX8_taken_0 10 rfl) v_RX8_90 (R_isHouse h.mn _) (by decide) rfl rfl rfl rfl rfl (Nat.le_of_ble_eq_true rfl) (by decide) ?_
    refine s_topi (bI_t (vH_t hj hM5)) ?_
    refine s_if_ne (tgt := 26) (tb_ok aX8_taken_0 11 rfl) (by decide) (fun c20 => ?_) (fun c20 => ?_)
    · refine s_aload_n (tb_ok aX8_taken_0 14 rfl) rfl ?_
      refine s_getR (r := 72) (tb_ok aX8_taken_0 15 rfl) f_RX8_29 rfl rfl rfl ?_
      refine s_iload_n (tb_ok aX8_taken_0 16 rfl) rfl ?_
      refine s_ialdX (x := (0)) (tb_ok aX8_taken_0 17 rfl) rfl (by omega) (by decide) ((h.c0 hj).trans hk) ?_
      refine s_istore_n (ls' := [some (.ref 66), some (.int (nI j)), some (.int (1)), some (.int (0))]) (tb_ok aX8_taken_0 18 rfl) rfl rfl ?_
      refine s_iload_n (tb_ok aX8_taken_0 19 rfl) rfl ?_
      refine s_iconst (v := -1) (tb_ok aX8_taken_0 20 rfl) (by decide) ?_
      refine s_icmp_eq (tgt := 51) (tb_ok aX8_taken_0 21 rfl) (by decide) (fun c35 => ?_) (fun c35 => ?_)
      · exact absurd c35 (by decide)
      · refine s_iload_n (tb_ok aX8_taken_0 22 rfl) rfl ?_
        refine s_iload_n (tb_ok aX8_taken_0 23 rfl) rfl ?_
        refine s_icmp_eq (tgt := 51) (tb_ok aX8_taken_1 0 rfl) (by decide) (fun c40 => ?_) (fun c40 => ?_)
        · exact absurd c40 (by decide)
        · refine s_iload_n (tb_ok aX8_taken_1 1 rfl) rfl ?_
          refine s_cSp (as := [.int (0)]) (tb_ok aX8_taken_1 2 rfl) v_RX8_451 (R_over0) (by decide) rfl rfl (Nat.le_of_ble_eq_true rfl) ?_
          refine s_istore_n (ls' := [some (.ref 66), some (.int (nI j)), some (.int (1)), some (.int (-1))]) (tb_ok aX8_taken_1 3 rfl) rfl rfl ?_
          refine s_goto (tgt := 33) (tb_ok aX8_taken_1 4 rfl) (by decide) ?_
          refine s_iload_n (tb_ok aX8_taken_0 19 rfl) rfl ?_
          refine s_iconst (v := -1) (tb_ok aX8_taken_0 20 rfl) (by decide) ?_
          refine s_icmp_eq (tgt := 51) (tb_ok aX8_taken_0 21 rfl) (by decide) (fun c35 => ?_) (fun c35 => ?_)
          · refine s_iload_n (tb_ok aX8_taken_1 5 rfl) rfl ?_
            refine s_iload_n (tb_ok aX8_taken_1 6 rfl) rfl ?_
            refine s_icmp_ne (tgt := 67) (tb_ok aX8_taken_1 7 rfl) (by decide) (fun c53 => ?_) (fun c53 => ?_)
            · refine s_bipush (v := -13) (tb_ok aX8_taken_1 15 rfl) (by decide) ?_
              refine s_iret (tb_ok aX8_taken_1 16 rfl) rfl ?_
              exact afZ (by rw [hk]; rfl) FrE.refl
            · exact absurd c53 (by decide)
          · exact absurd c35 (by decide)
    · exact absurd c20 (by decide)
  · exact absurd c9 (by decide)

set_option maxRecDepth 100000 in
set_option maxHeartbeats 1000000 in
theorem R_take0_2 {X : En} {L : FL} {q : Nat × Nat} {I : FI} {m : Nat} {fr fa : Nat → Int32} {M : Nat} {T : Nat → Nat → Int32} {d : Nat} {sem : Nat → Sem} (h : RSt I m fr fa M T d sem) {j : Nat} (hj : j < M) (hk : T j 0 = 0) : Ev X 60 mX8_taken (0, 0) [.ref 66, .int (nI j), .int (2)] S0 I L (R0 q) (AfZ q eB I (if isoF 2 6 (T j 0) = 1 then T j 1 else -13)) := by
  have hM5 := h.M5
  refine ev_of (by decide +kernel) rfl ?_
  show SW X _ _ _ 0 [some (.ref 66), some (.int (nI j)), some (.int (2)), none] [] S0 I L (R0 q) _
  refine s_iload_n (tb_ok aX8_taken_0 0 rfl) rfl ?_
  refine s_i2l (tb_ok aX8_taken_0 1 rfl) ?_
  refine s_lconst (v := 0) (tb_ok aX8_taken_0 2 rfl) (by decide) ?_
  refine s_ldc2 (tb_ok aX8_taken_0 3 rfl) k_RX8_111 ?_
  refine s_cSp (as := [_, .long (0), .long (5)]) (tb_ok aX8_taken_0 4 rfl) v_RX8_73 (R_in _ _ _) (by decide) rfl rfl (Nat.le_of_ble_eq_true rfl) ?_
  refine s_topi (bI_t (by decide)) ?_
  refine s_if_ne (tgt := 15) (tb_ok aX8_taken_0 5 rfl) (by decide) (fun c9 => ?_) (fun c9 => ?_)
  · refine s_aload_n (tb_ok aX8_taken_0 8 rfl) rfl ?_
    refine s_iload_n (tb_ok aX8_taken_0 9 rfl) rfl ?_
    refine s_cVp (as := [.int (nI j)]) (tb_ok aX8_taken_0 10 rfl) v_RX8_90 (R_isHouse h.mn _) (by decide) rfl rfl rfl rfl rfl (Nat.le_of_ble_eq_true rfl) (by decide) ?_
    refine s_topi (bI_t (vH_t hj hM5)) ?_
    refine s_if_ne (tgt := 26) (tb_ok aX8_taken_0 11 rfl) (by decide) (fun c20 => ?_) (fun c20 => ?_)
    · refine s_aload_n (tb_ok aX8_taken_0 14 rfl) rfl ?_
      refine s_getR (r := 72) (tb_ok aX8_taken_0 15 rfl) f_RX8_29 rfl rfl rfl ?_
      refine s_iload_n (tb_ok aX8_taken_0 16 rfl) rfl ?_
      refine s_ialdX (x := (0)) (tb_ok aX8_taken_0 17 rfl) rfl (by omega) (by decide) ((h.c0 hj).trans hk) ?_
      refine s_istore_n (ls' := [some (.ref 66), some (.int (nI j)), some (.int (2)), some (.int (0))]) (tb_ok aX8_taken_0 18 rfl) rfl rfl ?_
      refine s_iload_n (tb_ok aX8_taken_0 19 rfl) rfl ?_
      refine s_iconst (v := -1) (tb_ok aX8_taken_0 20 rfl) (by decide) ?_
      refine s_icmp_eq (tgt := 51) (tb_ok aX8_taken_0 21 rfl) (by decide) (fun c35 => ?_) (fun c35 => ?_)
      · exact absurd c35 (by decide)
      · refine s_iload_n (tb_ok aX8_taken_0 22 rfl) rfl ?_
        refine s_iload_n (tb_ok aX8_taken_0 23 rfl) rfl ?_
        refine s_icmp_eq (tgt := 51) (tb_ok aX8_taken_1 0 rfl) (by decide) (fun c40 => ?_) (fun c40 => ?_)
        · exact absurd c40 (by decide)
        · refine s_iload_n (tb_ok aX8_taken_1 1 rfl) rfl ?_
          refine s_cSp (as := [.int (0)]) (tb_ok aX8_taken_1 2 rfl) v_RX8_451 (R_over0) (by decide) rfl rfl (Nat.le_of_ble_eq_true rfl) ?_
          refine s_istore_n (ls' := [some (.ref 66), some (.int (nI j)), some (.int (2)), some (.int (-1))]) (tb_ok aX8_taken_1 3 rfl) rfl rfl ?_
          refine s_goto (tgt := 33) (tb_ok aX8_taken_1 4 rfl) (by decide) ?_
          refine s_iload_n (tb_ok aX8_taken_0 19 rfl) rfl ?_
          refine s_iconst (v := -1) (tb_ok aX8_taken_0 20 rfl) (by decide) ?_
          refine s_icmp_eq (tgt := 51) (tb_ok aX8_taken_0 21 rfl) (by decide) (fun c35 => ?_) (fun c35 => ?_)
          · refine s_iload_n (tb_ok aX8_taken_1 5 rfl) rfl ?_
            refine s_iload_n (tb_ok aX8_taken_1 6 rfl) rfl ?_
            refine s_icmp_ne (tgt := 67) (tb_ok aX8_taken_1 7 rfl) (by decide) (fun c53 => ?_) (fun c53 => ?_)
            · refine s_bipush (v := -13) (tb_ok aX8_taken_1 15 rfl) (by decide) ?_
              refine s_iret (tb_ok aX8_taken_1 16 rfl) rfl ?_
              exact afZ (by rw [hk]; rfl) FrE.refl
            · exact absurd c53 (by decide)
          · exact absurd c35 (by decide)
    · exact absurd c20 (by decide)
  · exact absurd c9 (by decide)

set_option maxRecDepth 100000 in
set_option maxHeartbeats 1000000 in
theorem R_take0_3 {X : En} {L : FL} {q : Nat × Nat} {I : FI} {m : Nat} {fr fa : Nat → Int32} {M : Nat} {T : Nat → Nat → Int32} {d : Nat} {sem : Nat → Sem} (h : RSt I m fr fa M T d sem) {j : Nat} (hj : j < M) (hk : T j 0 = 0) : Ev X 60 mX8_taken (0, 0) [.ref 66, .int (nI j), .int (3)] S0 I L (R0 q) (AfZ q eB I (if isoF 3 6 (T j 0) = 1 then T j 1 else -13)) := by
  have hM5 := h.M5
  refine ev_of (by decide +kernel) rfl ?_
  show SW X _ _ _ 0 [some (.ref 66), some (.int (nI j)), some (.int (3)), none] [] S0 I L (R0 q) _
  refine s_iload_n (tb_ok aX8_taken_0 0 rfl) rfl ?_
  refine s_i2l (tb_ok aX8_taken_0 1 rfl) ?_
  refine s_lconst (v := 0) (tb_ok aX8_taken_0 2 rfl) (by decide) ?_
  refine s_ldc2 (tb_ok aX8_taken_0 3 rfl) k_RX8_111 ?_
  refine s_cSp (as := [_, .long (0), .long (5)]) (tb_ok aX8_taken_0 4 rfl) v_RX8_73 (R_in _ _ _) (by decide) rfl rfl (Nat.le_of_ble_eq_true rfl) ?_
  refine s_topi (bI_t (by decide)) ?_
  refine s_if_ne (tgt := 15) (tb_ok aX8_taken_0 5 rfl) (by decide) (fun c9 => ?_) (fun c9 => ?_)
  · refine s_aload_n (tb_ok aX8_taken_0 8 rfl) rfl ?_
    refine s_iload_n (tb_ok aX8_taken_0 9 rfl) rfl ?_
    refine s_cVp (as := [.int (nI j)]) (tb_ok aX8_taken_0 10 rfl) v_RX8_90 (R_isHouse h.mn _) (by decide) rfl rfl rfl rfl rfl (Nat.le_of_ble_eq_true rfl) (by decide) ?_
    refine s_topi (bI_t (vH_t hj hM5)) ?_
    refine s_if_ne (tgt := 26) (tb_ok aX8_taken_0 11 rfl) (by decide) (fun c20 => ?_) (fun c20 => ?_)
    · refine s_aload_n (tb_ok aX8_taken_0 14 rfl) rfl ?_
      refine s_getR (r := 72) (tb_ok aX8_taken_0 15 rfl) f_RX8_29 rfl rfl rfl ?_
      refine s_iload_n (tb_ok aX8_taken_0 16 rfl) rfl ?_
      refine s_ialdX (x := (0)) (tb_ok aX8_taken_0 17 rfl) rfl (by omega) (by decide) ((h.c0 hj).trans hk) ?_
      refine s_istore_n (ls' := [some (.ref 66), some (.int (nI j)), some (.int (3)), some (.int (0))]) (tb_ok aX8_taken_0 18 rfl) rfl rfl ?_
      refine s_iload_n (tb_ok aX8_taken_0 19 rfl) rfl ?_
      refine s_iconst (v := -1) (tb_ok aX8_taken_0 20 rfl) (by decide) ?_
      refine s_icmp_eq (tgt := 51) (tb_ok aX8_taken_0 21 rfl) (by decide) (fun c35 => ?_) (fun c35 => ?_)
      · exact absurd c35 (by decide)
      · refine s_iload_n (tb_ok aX8_taken_0 22 rfl) rfl ?_
        refine s_iload_n (tb_ok aX8_taken_0 23 rfl) rfl ?_
        refine s_icmp_eq (tgt := 51) (tb_ok aX8_taken_1 0 rfl) (by decide) (fun c40 => ?_) (fun c40 => ?_)
        · exact absurd c40 (by decide)
        · refine s_iload_n (tb_ok aX8_taken_1 1 rfl) rfl ?_
          refine s_cSp (as := [.int (0)]) (tb_ok aX8_taken_1 2 rfl) v_RX8_451 (R_over0) (by decide) rfl rfl (Nat.le_of_ble_eq_true rfl) ?_
          refine s_istore_n (ls' := [some (.ref 66), some (.int (nI j)), some (.int (3)), some (.int (-1))]) (tb_ok aX8_taken_1 3 rfl) rfl rfl ?_
          refine s_goto (tgt := 33) (tb_ok aX8_taken_1 4 rfl) (by decide) ?_
          refine s_iload_n (tb_ok aX8_taken_0 19 rfl) rfl ?_
          refine s_iconst (v := -1) (tb_ok aX8_taken_0 20 rfl) (by decide) ?_
          refine s_icmp_eq (tgt := 51) (tb_ok aX8_taken_0 21 rfl) (by decide) (fun c35 => ?_) (fun c35 => ?_)
          · refine s_iload_n (tb_ok aX8_taken_1 5 rfl) rfl ?_
            refine s_iload_n (tb_ok aX8_taken_1 6 rfl) rfl ?_
            refine s_icmp_ne (tgt := 67) (tb_ok aX8_taken_1 7 rfl) (by decide) (fun c53 => ?_) (fun c53 => ?_)
            · refine s_bipush (v := -13) (tb_ok aX8_taken_1 15 rfl) (by decide) ?_
              refine s_iret (tb_ok aX8_taken_1 16 rfl) rfl ?_
              exact afZ (by rw [hk]; rfl) FrE.refl
            · exact absurd c53 (by decide)
          · exact absurd c35 (by decide)
    · exact absurd c20 (by decide)
  · exact absurd c9 (by decide)

set_option maxRecDepth 100000 in
set_option maxHeartbeats 1000000 in
theorem R_take0_4 {X : En} {L : FL} {q : Nat × Nat} {I : FI} {m : Nat} {fr fa : Nat → Int32} {M : Nat} {T : Nat → Nat → Int32} {d : Nat} {sem : Nat → Sem} (h : RSt I m fr fa M T d sem) {j : Nat} (hj : j < M) (hk : T j 0 = 0) : Ev X 60 mX8_taken (0, 0) [.ref 66, .int (nI j), .int (4)] S0 I L (R0 q) (AfZ q eB I (if isoF 4 6 (T j 0) = 1 then T j 1 else -13)) := by
  have hM5 := h.M5
  refine ev_of (by decide +kernel) rfl ?_
  show SW X _ _ _ 0 [some (.ref 66), some (.int (nI j)), some (.int (4)), none] [] S0 I L (R0 q) _
  refine s_iload_n (tb_ok aX8_taken_0 0 rfl) rfl ?_
  refine s_i2l (tb_ok aX8_taken_0 1 rfl) ?_
  refine s_lconst (v := 0) (tb_ok aX8_taken_0 2 rfl) (by decide) ?_
  refine s_ldc2 (tb_ok aX8_taken_0 3 rfl) k_RX8_111 ?_
  refine s_cSp (as := [_, .long (0), .long (5)]) (tb_ok aX8_taken_0 4 rfl) v_RX8_73 (R_in _ _ _) (by decide) rfl rfl (Nat.le_of_ble_eq_true rfl) ?_
  refine s_topi (bI_t (by decide)) ?_
  refine s_if_ne (tgt := 15) (tb_ok aX8_taken_0 5 rfl) (by decide) (fun c9 => ?_) (fun c9 => ?_)
  · refine s_aload_n (tb_ok aX8_taken_0 8 rfl) rfl ?_
    refine s_iload_n (tb_ok aX8_taken_0 9 rfl) rfl ?_
    refine s_cVp (as := [.int (nI j)]) (tb_ok aX8_taken_0 10 rfl) v_RX8_90 (R_isHouse h.mn _) (by decide) rfl rfl rfl rfl rfl (Nat.le_of_ble_eq_true rfl) (by decide) ?_
    refine s_topi (bI_t (vH_t hj hM5)) ?_
    refine s_if_ne (tgt := 26) (tb_ok aX8_taken_0 11 rfl) (by decide) (fun c20 => ?_) (fun c20 => ?_)
    · refine s_aload_n (tb_ok aX8_taken_0 14 rfl) rfl ?_
      refine s_getR (r := 72) (tb_ok aX8_taken_0 15 rfl) f_RX8_29 rfl rfl rfl ?_
      refine s_iload_n (tb_ok aX8_taken_0 16 rfl) rfl ?_
      refine s_ialdX (x := (0)) (tb_ok aX8_taken_0 17 rfl) rfl (by omega) (by decide) ((h.c0 hj).trans hk) ?_
      refine s_istore_n (ls' := [some (.ref 66), some (.int (nI j)), some (.int (4)), some (.int (0))]) (tb_ok aX8_taken_0 18 rfl) rfl rfl ?_
      refine s_iload_n (tb_ok aX8_taken_0 19 rfl) rfl ?_
      refine s_iconst (v := -1) (tb_ok aX8_taken_0 20 rfl) (by decide) ?_
      refine s_icmp_eq (tgt := 51) (tb_ok aX8_taken_0 21 rfl) (by decide) (fun c35 => ?_) (fun c35 => ?_)
      · exact absurd c35 (by decide)
      · refine s_iload_n (tb_ok aX8_taken_0 22 rfl) rfl ?_
        refine s_iload_n (tb_ok aX8_taken_0 23 rfl) rfl ?_
        refine s_icmp_eq (tgt := 51) (tb_ok aX8_taken_1 0 rfl) (by decide) (fun c40 => ?_) (fun c40 => ?_)
        · exact absurd c40 (by decide)
        · refine s_iload_n (tb_ok aX8_taken_1 1 rfl) rfl ?_
          refine s_cSp (as := [.int (0)]) (tb_ok aX8_taken_1 2 rfl) v_RX8_451 (R_over0) (by decide) rfl rfl (Nat.le_of_ble_eq_true rfl) ?_
          refine s_istore_n (ls' := [some (.ref 66), some (.int (nI j)), some (.int (4)), some (.int (-1))]) (tb_ok aX8_taken_1 3 rfl) rfl rfl ?_
          refine s_goto (tgt := 33) (tb_ok aX8_taken_1 4 rfl) (by decide) ?_
          refine s_iload_n (tb_ok aX8_taken_0 19 rfl) rfl ?_
          refine s_iconst (v := -1) (tb_ok aX8_taken_0 20 rfl) (by decide) ?_
          refine s_icmp_eq (tgt := 51) (tb_ok aX8_taken_0 21 rfl) (by decide) (fun c35 => ?_) (fun c35 => ?_)
          · refine s_iload_n (tb_ok aX8_taken_1 5 rfl) rfl ?_
            refine s_iload_n (tb_ok aX8_taken_1 6 rfl) rfl ?_
            refine s_icmp_ne (tgt := 67) (tb_ok aX8_taken_1 7 rfl) (by decide) (fun c53 => ?_) (fun c53 => ?_)
            · refine s_bipush (v := -13) (tb_ok aX8_taken_1 15 rfl) (by decide) ?_
              refine s_iret (tb_ok aX8_taken_1 16 rfl) rfl ?_
              exact afZ (by rw [hk]; rfl) FrE.refl
            · exact absurd c53 (by decide)
          · exact absurd c35 (by decide)
    · exact absurd c20 (by decide)
  · exact absurd c9 (by decide)

set_option maxRecDepth 100000 in
set_option maxHeartbeats 1000000 in
theorem R_take0_5 {X : En} {L : FL} {q : Nat × Nat} {I : FI} {m : Nat} {fr fa : Nat → Int32} {M : Nat} {T : Nat → Nat → Int32} {d : Nat} {sem : Nat → Sem} (h : RSt I m fr fa M T d sem) {j : Nat} (hj : j < M) (hk : T j 0 = 0) : Ev X 60 mX8_taken (0, 0) [.ref 66, .int (nI j), .int (5)] S0 I L (R0 q) (AfZ q eB I (if isoF 5 6 (T j 0) = 1 then T j 1 else -13)) := by
  have hM5 := h.M5
  refine ev_of (by decide +kernel) rfl ?_
  show SW X _ _ _ 0 [some (.ref 66), some (.int (nI j)), some (.int (5)), none] [] S0 I L (R0 q) _
  refine s_iload_n (tb_ok aX8_taken_0 0 rfl) rfl ?_
  refine s_i2l (tb_ok aX8_taken_0 1 rfl) ?_
  refine s_lconst (v := 0) (tb_ok aX8_taken_0 2 rfl) (by decide) ?_
  refine s_ldc2 (tb_ok aX8_taken_0 3 rfl) k_RX8_111 ?_
  refine s_cSp (as := [_, .long (0), .long (5)]) (tb_ok aX8_taken_0 4 rfl) v_RX8_73 (R_in _ _ _) (by decide) rfl rfl (Nat.le_of_ble_eq_true rfl) ?_
  refine s_topi (bI_t (by decide)) ?_
  refine s_if_ne (tgt := 15) (tb_ok aX8_taken_0 5 rfl) (by decide) (fun c9 => ?_) (fun c9 => ?_)
  · refine s_aload_n (tb_ok aX8_taken_0 8 rfl) rfl ?_
    refine s_iload_n (tb_ok aX8_taken_0 9 rfl) rfl ?_
    refine s_cVp (as := [.int (nI j)]) (tb_ok aX8_taken_0 10 rfl) v_RX8_90 (R_isHouse h.mn _) (by decide) rfl rfl rfl rfl rfl (Nat.le_of_ble_eq_true rfl) (by decide) ?_
    refine s_topi (bI_t (vH_t hj hM5)) ?_
    refine s_if_ne (tgt := 26) (tb_ok aX8_taken_0 11 rfl) (by decide) (fun c20 => ?_) (fun c20 => ?_)
    · refine s_aload_n (tb_ok aX8_taken_0 14 rfl) rfl ?_
      refine s_getR (r := 72) (tb_ok aX8_taken_0 15 rfl) f_RX8_29 rfl rfl rfl ?_
      refine s_iload_n (tb_ok aX8_taken_0 16 rfl) rfl ?_
      refine s_ialdX (x := (0)) (tb_ok aX8_taken_0 17 rfl) rfl (by omega) (by decide) ((h.c0 hj).trans hk) ?_
      refine s_istore_n (ls' := [some (.ref 66), some (.int (nI j)), some (.int (5)), some (.int (0))]) (tb_ok aX8_taken_0 18 rfl) rfl rfl ?_
      refine s_iload_n (tb_ok aX8_taken_0 19 rfl) rfl ?_
      refine s_iconst (v := -1) (tb_ok aX8_taken_0 20 rfl) (by decide) ?_
      refine s_icmp_eq (tgt := 51) (tb_ok aX8_taken_0 21 rfl) (by decide) (fun c35 => ?_) (fun c35 => ?_)
      · exact absurd c35 (by decide)
      · refine s_iload_n (tb_ok aX8_taken_0 22 rfl) rfl ?_
        refine s_iload_n (tb_ok aX8_taken_0 23 rfl) rfl ?_
        refine s_icmp_eq (tgt := 51) (tb_ok aX8_taken_1 0 rfl) (by decide) (fun c40 => ?_) (fun c40 => ?_)
        · exact absurd c40 (by decide)
        · refine s_iload_n (tb_ok aX8_taken_1 1 rfl) rfl ?_
          refine s_cSp (as := [.int (0)]) (tb_ok aX8_taken_1 2 rfl) v_RX8_451 (R_over0) (by decide) rfl rfl (Nat.le_of_ble_eq_true rfl) ?_
          refine s_istore_n (ls' := [some (.ref 66), some (.int (nI j)), some (.int (5)), some (.int (-1))]) (tb_ok aX8_taken_1 3 rfl) rfl rfl ?_
          refine s_goto (tgt := 33) (tb_ok aX8_taken_1 4 rfl) (by decide) ?_
          refine s_iload_n (tb_ok aX8_taken_0 19 rfl) rfl ?_
          refine s_iconst (v := -1) (tb_ok aX8_taken_0 20 rfl) (by decide) ?_
          refine s_icmp_eq (tgt := 51) (tb_ok aX8_taken_0 21 rfl) (by decide) (fun c35 => ?_) (fun c35 => ?_)
          · refine s_iload_n (tb_ok aX8_taken_1 5 rfl) rfl ?_
            refine s_iload_n (tb_ok aX8_taken_1 6 rfl) rfl ?_
            refine s_icmp_ne (tgt := 67) (tb_ok aX8_taken_1 7 rfl) (by decide) (fun c53 => ?_) (fun c53 => ?_)
            · refine s_bipush (v := -13) (tb_ok aX8_taken_1 15 rfl) (by decide) ?_
              refine s_iret (tb_ok aX8_taken_1 16 rfl) rfl ?_
              exact afZ (by rw [hk]; rfl) FrE.refl
            · exact absurd c53 (by decide)
          · exact absurd c35 (by decide)
    · exact absurd c20 (by decide)
  · exact absurd c9 (by decide)

theorem R_takk0 {X : En} {L : FL} {q : Nat × Nat} {I : FI} {m : Nat} {fr fa : Nat → Int32} {M : Nat} {T : Nat → Nat → Int32} {d : Nat} {sem : Nat → Sem} (h : RSt I m fr fa M T d sem) {j k : Nat} (hj : j < M) (hk6 : k < 6) (hk : T j 0 = 0) : Ev X 60 mX8_taken (0, 0) [.ref 66, .int (nI j), .int (nI k)] S0 I L (R0 q) (AfZ q eB I (if isoF (nI k) 6 (T j 0) = 1 then T j 1 else -13)) := by
  have e : k = 0 ∨ k = 1 ∨ k = 2 ∨ k = 3 ∨ k = 4 ∨ k = 5 := by omega
  rcases e with e | e | e | e | e | e <;> subst e
  · exact R_take0_0 h hj hk
  · exact R_take0_1 h hj hk
  · exact R_take0_2 h hj hk
  · exact R_take0_3 h hj hk
  · exact R_take0_4 h hj hk
  · exact R_take0_5 h hj hk
set_option maxRecDepth 100000 in
set_option maxHeartbeats 1000000 in
theorem R_take1_0 {X : En} {L : FL} {q : Nat × Nat} {I : FI} {m : Nat} {fr fa : Nat → Int32} {M : Nat} {T : Nat → Nat → Int32} {d : Nat} {sem : Nat → Sem} (h : RSt I m fr fa M T d sem) {j : Nat} (hj : j < M) (hk : T j 0 = 1) : Ev X 60 mX8_taken (0, 0) [.ref 66, .int (nI j), .int (0)] S0 I L (R0 q) (AfZ q eB I (if isoF 0 6 (T j 0) = 1 then T j 1 else -13)) := by
  have hM5 := h.M5
  refine ev_of (by decide +kernel) rfl ?_
  show SW X _ _ _ 0 [some (.ref 66), some (.int (nI j)), some (.int (0)), none] [] S0 I L (R0 q) _
  refine s_iload_n (tb_ok aX8_taken_0 0 rfl) rfl ?_
  refine s_i2l (tb_ok aX8_taken_0 1 rfl) ?_
  refine s_lconst (v := 0) (tb_ok aX8_taken_0 2 rfl) (by decide) ?_
  refine s_ldc2 (tb_ok aX8_taken_0 3 rfl) k_RX8_111 ?_
  refine s_cSp (as := [_, .long (0), .long (5)]) (tb_ok aX8_taken_0 4 rfl) v_RX8_73 (R_in _ _ _) (by decide) rfl rfl (Nat.le_of_ble_eq_true rfl) ?_
  refine s_topi (bI_t (by decide)) ?_
  refine s_if_ne (tgt := 15) (tb_ok aX8_taken_0 5 rfl) (by decide) (fun c9 => ?_) (fun c9 => ?_)
  · refine s_aload_n (tb_ok aX8_taken_0 8 rfl) rfl ?_
    refine s_iload_n (tb_ok aX8_taken_0 9 rfl) rfl ?_
    refine s_cVp (as := [.int (nI j)]) (tb_ok aX8_taken_0 10 rfl) v_RX8_90 (R_isHouse h.mn _) (by decide) rfl rfl rfl rfl rfl (Nat.le_of_ble_eq_true rfl) (by decide) ?_
    refine s_topi (bI_t (vH_t hj hM5)) ?_
    refine s_if_ne (tgt := 26) (tb_ok aX8_taken_0 11 rfl) (by decide) (fun c20 => ?_) (fun c20 => ?_)
    · refine s_aload_n (tb_ok aX8_taken_0 14 rfl) rfl ?_
      refine s_getR (r := 72) (tb_ok aX8_taken_0 15 rfl) f_RX8_29 rfl rfl rfl ?_
      refine s_iload_n (tb_ok aX8_taken_0 16 rfl) rfl ?_
      refine s_ialdX (x := (1)) (tb_ok aX8_taken_0 17 rfl) rfl (by omega) (by decide) ((h.c0 hj).trans hk) ?_
      refine s_istore_n (ls' := [some (.ref 66), some (.int (nI j)), some (.int (0)), some (.int (1))]) (tb_ok aX8_taken_0 18 rfl) rfl rfl ?_
      refine s_iload_n (tb_ok aX8_taken_0 19 rfl) rfl ?_
      refine s_iconst (v := -1) (tb_ok aX8_taken_0 20 rfl) (by decide) ?_
      refine s_icmp_eq (tgt := 51) (tb_ok aX8_taken_0 21 rfl) (by decide) (fun c35 => ?_) (fun c35 => ?_)
      · exact absurd c35 (by decide)
      · refine s_iload_n (tb_ok aX8_taken_0 22 rfl) rfl ?_
        refine s_iload_n (tb_ok aX8_taken_0 23 rfl) rfl ?_
        refine s_icmp_eq (tgt := 51) (tb_ok aX8_taken_1 0 rfl) (by decide) (fun c40 => ?_) (fun c40 => ?_)
        · exact absurd c40 (by decide)
        · refine s_iload_n (tb_ok aX8_taken_1 1 rfl) rfl ?_
          refine s_cSp (as := [.int (1)]) (tb_ok aX8_taken_1 2 rfl) v_RX8_451 (R_over1) (by decide) rfl rfl (Nat.le_of_ble_eq_true rfl) ?_
          refine s_istore_n (ls' := [some (.ref 66), some (.int (nI j)), some (.int (0)), some (.int (0))]) (tb_ok aX8_taken_1 3 rfl) rfl rfl ?_
          refine s_goto (tgt := 33) (tb_ok aX8_taken_1 4 rfl) (by decide) ?_
          refine s_iload_n (tb_ok aX8_taken_0 19 rfl) rfl ?_
          refine s_iconst (v := -1) (tb_ok aX8_taken_0 20 rfl) (by decide) ?_
          refine s_icmp_eq (tgt := 51) (tb_ok aX8_taken_0 21 rfl) (by decide) (fun c35 => ?_) (fun c35 => ?_)
          · exact absurd c35 (by decide)
          · refine s_iload_n (tb_ok aX8_taken_0 22 rfl) rfl ?_
            refine s_iload_n (tb_ok aX8_taken_0 23 rfl) rfl ?_
            refine s_icmp_eq (tgt := 51) (tb_ok aX8_taken_1 0 rfl) (by decide) (fun c40 => ?_) (fun c40 => ?_)
            · refine s_iload_n (tb_ok aX8_taken_1 5 rfl) rfl ?_
              refine s_iload_n (tb_ok aX8_taken_1 6 rfl) rfl ?_
              refine s_icmp_ne (tgt := 67) (tb_ok aX8_taken_1 7 rfl) (by decide) (fun c53 => ?_) (fun c53 => ?_)
              · exact absurd c53 (by decide)
              · refine s_aload_n (tb_ok aX8_taken_1 8 rfl) rfl ?_
                refine s_getR (r := 73) (tb_ok aX8_taken_1 9 rfl) f_RX8_32 rfl rfl rfl ?_
                refine s_iconst (v := 4) (tb_ok aX8_taken_1 10 rfl) (by decide) ?_
                refine s_iload_n (tb_ok aX8_taken_1 11 rfl) rfl ?_
                refine s_imul (tb_ok aX8_taken_1 12 rfl) ?_
                refine s_topi (z := (nI (4 * j))) (nI_mul 4 j) ?_
                refine s_ialdX (x := (T j 1)) (tb_ok aX8_taken_1 13 rfl) rfl (by omega) (by decide) (h.c1 hj) ?_
                refine s_goto (tgt := 69) (tb_ok aX8_taken_1 14 rfl) (by decide) ?_
                refine s_iret (tb_ok aX8_taken_1 16 rfl) rfl ?_
                exact afZ (by rw [hk]; rfl) FrE.refl
            · exact absurd c40 (by decide)
    · exact absurd c20 (by decide)
  · exact absurd c9 (by decide)

set_option maxRecDepth 100000 in
set_option maxHeartbeats 1000000 in
theorem R_take1_1 {X : En} {L : FL} {q : Nat × Nat} {I : FI} {m : Nat} {fr fa : Nat → Int32} {M : Nat} {T : Nat → Nat → Int32} {d : Nat} {sem : Nat → Sem} (h : RSt I m fr fa M T d sem) {j : Nat} (hj : j < M) (hk : T j 0 = 1) : Ev X 60 mX8_taken (0, 0) [.ref 66, .int (nI j), .int (1)] S0 I L (R0 q) (AfZ q eB I (if isoF 1 6 (T j 0) = 1 then T j 1 else -13)) := by
  have hM5 := h.M5
  refine ev_of (by decide +kernel) rfl ?_
  show SW X _ _ _ 0 [some (.ref 66), some (.int (nI j)), some (.int (1)), none] [] S0 I L (R0 q) _
  refine s_iload_n (tb_ok aX8_taken_0 0 rfl) rfl ?_
  refine s_i2l (tb_ok aX8_taken_0 1 rfl) ?_
  refine s_lconst (v := 0) (tb_ok aX8_taken_0 2 rfl) (by decide) ?_
  refine s_ldc2 (tb_ok aX8_taken_0 3 rfl) k_RX8_111 ?_
  refine s_cSp (as := [_, .long (0), .long (5)]) (tb_ok aX8_taken_0 4 rfl) v_RX8_73 (R_in _ _ _) (by decide) rfl rfl (Nat.le_of_ble_eq_true rfl) ?_
  refine s_topi (bI_t (by decide)) ?_
  refine s_if_ne (tgt := 15) (tb_ok aX8_taken_0 5 rfl) (by decide) (fun c9 => ?_) (fun c9 => ?_)
  · refine s_aload_n (tb_ok aX8_taken_0 8 rfl) rfl ?_
    refine s_iload_n (tb_ok aX8_taken_0 9 rfl) rfl ?_
    refine s_cVp (as := [.int (nI j)]) (tb_ok aX8_taken_0 10 rfl) v_RX8_90 (R_isHouse h.mn _) (by decide) rfl rfl rfl rfl rfl (Nat.le_of_ble_eq_true rfl) (by decide) ?_
    refine s_topi (bI_t (vH_t hj hM5)) ?_
    refine s_if_ne (tgt := 26) (tb_ok aX8_taken_0 11 rfl) (by decide) (fun c20 => ?_) (fun c20 => ?_)
    · refine s_aload_n (tb_ok aX8_taken_0 14 rfl) rfl ?_
      refine s_getR (r := 72) (tb_ok aX8_taken_0 15 rfl) f_RX8_29 rfl rfl rfl ?_
      refine s_iload_n (tb_ok aX8_taken_0 16 rfl) rfl ?_
      refine s_ialdX (x := (1)) (tb_ok aX8_taken_0 17 rfl) rfl (by omega) (by decide) ((h.c0 hj).trans hk) ?_
      refine s_istore_n (ls' := [some (.ref 66), some (.int (nI j)), some (.int (1)), some (.int (1))]) (tb_ok aX8_taken_0 18 rfl) rfl rfl ?_
      refine s_iload_n (tb_ok aX8_taken_0 19 rfl) rfl ?_
      refine s_iconst (v := -1) (tb_ok aX8_taken_0 20 rfl) (by decide) ?_
      refine s_icmp_eq (tgt := 51) (tb_ok aX8_taken_0 21 rfl) (by decide) (fun c35 => ?_) (fun c35 => ?_)
      · exact absurd c35 (by decide)
      · refine s_iload_n (tb_ok aX8_taken_0 22 rfl) rfl ?_
        refine s_iload_n (tb_ok aX8_taken_0 23 rfl) rfl ?_
        refine s_icmp_eq (tgt := 51) (tb_ok aX8_taken_1 0 rfl) (by decide) (fun c40 => ?_) (fun c40 => ?_)
        · refine s_iload_n (tb_ok aX8_taken_1 5 rfl) rfl ?_
          refine s_iload_n (tb_ok aX8_taken_1 6 rfl) rfl ?_
          refine s_icmp_ne (tgt := 67) (tb_ok aX8_taken_1 7 rfl) (by decide) (fun c53 => ?_) (fun c53 => ?_)
          · exact absurd c53 (by decide)
          · refine s_aload_n (tb_ok aX8_taken_1 8 rfl) rfl ?_
            refine s_getR (r := 73) (tb_ok aX8_taken_1 9 rfl) f_RX8_32 rfl rfl rfl ?_
            refine s_iconst (v := 4) (tb_ok aX8_taken_1 10 rfl) (by decide) ?_
            refine s_iload_n (tb_ok aX8_taken_1 11 rfl) rfl ?_
            refine s_imul (tb_ok aX8_taken_1 12 rfl) ?_
            refine s_topi (z := (nI (4 * j))) (nI_mul 4 j) ?_
            refine s_ialdX (x := (T j 1)) (tb_ok aX8_taken_1 13 rfl) rfl (by omega) (by decide) (h.c1 hj) ?_
            refine s_goto (tgt := 69) (tb_ok aX8_taken_1 14 rfl) (by decide) ?_
            refine s_iret (tb_ok aX8_taken_1 16 rfl) rfl ?_
            exact afZ (by rw [hk]; rfl) FrE.refl
        · exact absurd c40 (by decide)
    · exact absurd c20 (by decide)
  · exact absurd c9 (by decide)

set_option maxRecDepth 100000 in
set_option maxHeartbeats 1000000 in
theorem R_take1_2 {X : En} {L : FL} {q : Nat × Nat} {I : FI} {m : Nat} {fr fa : Nat → Int32} {M : Nat} {T : Nat → Nat → Int32} {d : Nat} {sem : Nat → Sem} (h : RSt I m fr fa M T d sem) {j : Nat} (hj : j < M) (hk : T j 0 = 1) : Ev X 60 mX8_taken (0, 0) [.ref 66, .int (nI j), .int (2)] S0 I L (R0 q) (AfZ q eB I (if isoF 2 6 (T j 0) = 1 then T j 1 else -13)) := by
  have hM5 := h.M5
  refine ev_of (by decide +kernel) rfl ?_
  show SW X _ _ _ 0 [some (.ref 66), some (.int (nI j)), some (.int (2)), none] [] S0 I L (R0 q) _
  refine s_iload_n (tb_ok aX8_taken_0 0 rfl) rfl ?_
  refine s_i2l (tb_ok aX8_taken_0 1 rfl) ?_
  refine s_lconst (v := 0) (tb_ok aX8_taken_0 2 rfl) (by decide) ?_
  refine s_ldc2 (tb_ok aX8_taken_0 3 rfl) k_RX8_111 ?_
  refine s_cSp (as := [_, .long (0), .long (5)]) (tb_ok aX8_taken_0 4 rfl) v_RX8_73 (R_in _ _ _) (by decide) rfl rfl (Nat.le_of_ble_eq_true rfl) ?_
  refine s_topi (bI_t (by decide)) ?_
  refine s_if_ne (tgt := 15) (tb_ok aX8_taken_0 5 rfl) (by decide) (fun c9 => ?_) (fun c9 => ?_)
  · refine s_aload_n (tb_ok aX8_taken_0 8 rfl) rfl ?_
    refine s_iload_n (tb_ok aX8_taken_0 9 rfl) rfl ?_
    refine s_cVp (as := [.int (nI j)]) (tb_ok aX8_taken_0 10 rfl) v_RX8_90 (R_isHouse h.mn _) (by decide) rfl rfl rfl rfl rfl (Nat.le_of_ble_eq_true rfl) (by decide) ?_
    refine s_topi (bI_t (vH_t hj hM5)) ?_
    refine s_if_ne (tgt := 26) (tb_ok aX8_taken_0 11 rfl) (by decide) (fun c20 => ?_) (fun c20 => ?_)
    · refine s_aload_n (tb_ok aX8_taken_0 14 rfl) rfl ?_
      refine s_getR (r := 72) (tb_ok aX8_taken_0 15 rfl) f_RX8_29 rfl rfl rfl ?_
      refine s_iload_n (tb_ok aX8_taken_0 16 rfl) rfl ?_
      refine s_ialdX (x := (1)) (tb_ok aX8_taken_0 17 rfl) rfl (by omega) (by decide) ((h.c0 hj).trans hk) ?_
      refine s_istore_n (ls' := [some (.ref 66), some (.int (nI j)), some (.int (2)), some (.int (1))]) (tb_ok aX8_taken_0 18 rfl) rfl rfl ?_
      refine s_iload_n (tb_ok aX8_taken_0 19 rfl) rfl ?_
      refine s_iconst (v := -1) (tb_ok aX8_taken_0 20 rfl) (by decide) ?_
      refine s_icmp_eq (tgt := 51) (tb_ok aX8_taken_0 21 rfl) (by decide) (fun c35 => ?_) (fun c35 => ?_)
      · exact absurd c35 (by decide)
      · refine s_iload_n (tb_ok aX8_taken_0 22 rfl) rfl ?_
        refine s_iload_n (tb_ok aX8_taken_0 23 rfl) rfl ?_
        refine s_icmp_eq (tgt := 51) (tb_ok aX8_taken_1 0 rfl) (by decide) (fun c40 => ?_) (fun c40 => ?_)
        · exact absurd c40 (by decide)
        · refine s_iload_n (tb_ok aX8_taken_1 1 rfl) rfl ?_
          refine s_cSp (as := [.int (1)]) (tb_ok aX8_taken_1 2 rfl) v_RX8_451 (R_over1) (by decide) rfl rfl (Nat.le_of_ble_eq_true rfl) ?_
          refine s_istore_n (ls' := [some (.ref 66), some (.int (nI j)), some (.int (2)), some (.int (0))]) (tb_ok aX8_taken_1 3 rfl) rfl rfl ?_
          refine s_goto (tgt := 33) (tb_ok aX8_taken_1 4 rfl) (by decide) ?_
          refine s_iload_n (tb_ok aX8_taken_0 19 rfl) rfl ?_
          refine s_iconst (v := -1) (tb_ok aX8_taken_0 20 rfl) (by decide) ?_
          refine s_icmp_eq (tgt := 51) (tb_ok aX8_taken_0 21 rfl) (by decide) (fun c35 => ?_) (fun c35 => ?_)
          · exact absurd c35 (by decide)
          · refine s_iload_n (tb_ok aX8_taken_0 22 rfl) rfl ?_
            refine s_iload_n (tb_ok aX8_taken_0 23 rfl) rfl ?_
            refine s_icmp_eq (tgt := 51) (tb_ok aX8_taken_1 0 rfl) (by decide) (fun c40 => ?_) (fun c40 => ?_)
            · exact absurd c40 (by decide)
            · refine s_iload_n (tb_ok aX8_taken_1 1 rfl) rfl ?_
              refine s_cSp (as := [.int (0)]) (tb_ok aX8_taken_1 2 rfl) v_RX8_451 (R_over0) (by decide) rfl rfl (Nat.le_of_ble_eq_true rfl) ?_
              refine s_istore_n (ls' := [some (.ref 66), some (.int (nI j)), some (.int (2)), some (.int (-1))]) (tb_ok aX8_taken_1 3 rfl) rfl rfl ?_
              refine s_goto (tgt := 33) (tb_ok aX8_taken_1 4 rfl) (by decide) ?_
              refine s_iload_n (tb_ok aX8_taken_0 19 rfl) rfl ?_
              refine s_iconst (v := -1) (tb_ok aX8_taken_0 20 rfl) (by decide) ?_
              refine s_icmp_eq (tgt := 51) (tb_ok aX8_taken_0 21 rfl) (by decide) (fun c35 => ?_) (fun c35 => ?_)
              · refine s_iload_n (tb_ok aX8_taken_1 5 rfl) rfl ?_
                refine s_iload_n (tb_ok aX8_taken_1 6 rfl) rfl ?_
                refine s_icmp_ne (tgt := 67) (tb_ok aX8_taken_1 7 rfl) (by decide) (fun c53 => ?_) (fun c53 => ?_)
                · refine s_bipush (v := -13) (tb_ok aX8_taken_1 15 rfl) (by decide) ?_
                  refine s_iret (tb_ok aX8_taken_1 16 rfl) rfl ?_
                  exact afZ (by rw [hk]; rfl) FrE.refl
                · exact absurd c53 (by decide)
              · exact absurd c35 (by decide)
    · exact absurd c20 (by decide)
  · exact absurd c9 (by decide)

set_option maxRecDepth 100000 in
set_option maxHeartbeats 1000000 in
theorem R_take1_3 {X : En} {L : FL} {q : Nat × Nat} {I : FI} {m : Nat} {fr fa : Nat → Int32} {M : Nat} {T : Nat → Nat → Int32} {d : Nat} {sem : Nat → Sem} (h : RSt I m fr fa M T d sem) {j : Nat} (hj : j < M) (hk : T j 0 = 1) : Ev X 60 mX8_taken (0, 0) [.ref 66, .int (nI j), .int (3)] S0 I L (R0 q) (AfZ q eB I (if isoF 3 6 (T j 0) = 1 then T j 1 else -13)) := by
  have hM5 := h.M5
  refine ev_of (by decide +kernel) rfl ?_
  show SW X _ _ _ 0 [some (.ref 66), some (.int (nI j)), some (.int (3)), none] [] S0 I L (R0 q) _
  refine s_iload_n (tb_ok aX8_taken_0 0 rfl) rfl ?_
  refine s_i2l (tb_ok aX8_taken_0 1 rfl) ?_
  refine s_lconst (v := 0) (tb_ok aX8_taken_0 2 rfl) (by decide) ?_
  refine s_ldc2 (tb_ok aX8_taken_0 3 rfl) k_RX8_111 ?_
  refine s_cSp (as := [_, .long (0), .long (5)]) (tb_ok aX8_taken_0 4 rfl) v_RX8_73 (R_in _ _ _) (by decide) rfl rfl (Nat.le_of_ble_eq_true rfl) ?_
  refine s_topi (bI_t (by decide)) ?_
  refine s_if_ne (tgt := 15) (tb_ok aX8_taken_0 5 rfl) (by decide) (fun c9 => ?_) (fun c9 => ?_)
  · refine s_aload_n (tb_ok aX8_taken_0 8 rfl) rfl ?_
    refine s_iload_n (tb_ok aX8_taken_0 9 rfl) rfl ?_
    refine s_cVp (as := [.int (nI j)]) (tb_ok aX8_taken_0 10 rfl) v_RX8_90 (R_isHouse h.mn _) (by decide) rfl rfl rfl rfl rfl (Nat.le_of_ble_eq_true rfl) (by decide) ?_
    refine s_topi (bI_t (vH_t hj hM5)) ?_
    refine s_if_ne (tgt := 26) (tb_ok aX8_taken_0 11 rfl) (by decide) (fun c20 => ?_) (fun c20 => ?_)
    · refine s_aload_n (tb_ok aX8_taken_0 14 rfl) rfl ?_
      refine s_getR (r := 72) (tb_ok aX8_taken_0 15 rfl) f_RX8_29 rfl rfl rfl ?_
      refine s_iload_n (tb_ok aX8_taken_0 16 rfl) rfl ?_
      refine s_ialdX (x := (1)) (tb_ok aX8_taken_0 17 rfl) rfl (by omega) (by decide) ((h.c0 hj).trans hk) ?_
      refine s_istore_n (ls' := [some (.ref 66), some (.int (nI j)), some (.int (3)), some (.int (1))]) (tb_ok aX8_taken_0 18 rfl) rfl rfl ?_
      refine s_iload_n (tb_ok aX8_taken_0 19 rfl) rfl ?_
      refine s_iconst (v := -1) (tb_ok aX8_taken_0 20 rfl) (by decide) ?_
      refine s_icmp_eq (tgt := 51) (tb_ok aX8_taken_0 21 rfl) (by decide) (fun c35 => ?_) (fun c35 => ?_)
      · exact absurd c35 (by decide)
      · refine s_iload_n (tb_ok aX8_taken_0 22 rfl) rfl ?_
        refine s_iload_n (tb_ok aX8_taken_0 23 rfl) rfl ?_
        refine s_icmp_eq (tgt := 51) (tb_ok aX8_taken_1 0 rfl) (by decide) (fun c40 => ?_) (fun c40 => ?_)
        · exact absurd c40 (by decide)
        · refine s_iload_n (tb_ok aX8_taken_1 1 rfl) rfl ?_
          refine s_cSp (as := [.int (1)]) (tb_ok aX8_taken_1 2 rfl) v_RX8_451 (R_over1) (by decide) rfl rfl (Nat.le_of_ble_eq_true rfl) ?_
          refine s_istore_n (ls' := [some (.ref 66), some (.int (nI j)), some (.int (3)), some (.int (0))]) (tb_ok aX8_taken_1 3 rfl) rfl rfl ?_
          refine s_goto (tgt := 33) (tb_ok aX8_taken_1 4 rfl) (by decide) ?_
          refine s_iload_n (tb_ok aX8_taken_0 19 rfl) rfl ?_
          refine s_iconst (v := -1) (tb_ok aX8_taken_0 20 rfl) (by decide) ?_
          refine s_icmp_eq (tgt := 51) (tb_ok aX8_taken_0 21 rfl) (by decide) (fun c35 => ?_) (fun c35 => ?_)
          · exact absurd c35 (by decide)
          · refine s_iload_n (tb_ok aX8_taken_0 22 rfl) rfl ?_
            refine s_iload_n (tb_ok aX8_taken_0 23 rfl) rfl ?_
            refine s_icmp_eq (tgt := 51) (tb_ok aX8_taken_1 0 rfl) (by decide) (fun c40 => ?_) (fun c40 => ?_)
            · exact absurd c40 (by decide)
            · refine s_iload_n (tb_ok aX8_taken_1 1 rfl) rfl ?_
              refine s_cSp (as := [.int (0)]) (tb_ok aX8_taken_1 2 rfl) v_RX8_451 (R_over0) (by decide) rfl rfl (Nat.le_of_ble_eq_true rfl) ?_
              refine s_istore_n (ls' := [some (.ref 66), some (.int (nI j)), some (.int (3)), some (.int (-1))]) (tb_ok aX8_taken_1 3 rfl) rfl rfl ?_
              refine s_goto (tgt := 33) (tb_ok aX8_taken_1 4 rfl) (by decide) ?_
              refine s_iload_n (tb_ok aX8_taken_0 19 rfl) rfl ?_
              refine s_iconst (v := -1) (tb_ok aX8_taken_0 20 rfl) (by decide) ?_
              refine s_icmp_eq (tgt := 51) (tb_ok aX8_taken_0 21 rfl) (by decide) (fun c35 => ?_) (fun c35 => ?_)
              · refine s_iload_n (tb_ok aX8_taken_1 5 rfl) rfl ?_
                refine s_iload_n (tb_ok aX8_taken_1 6 rfl) rfl ?_
                refine s_icmp_ne (tgt := 67) (tb_ok aX8_taken_1 7 rfl) (by decide) (fun c53 => ?_) (fun c53 => ?_)
                · refine s_bipush (v := -13) (tb_ok aX8_taken_1 15 rfl) (by decide) ?_
                  refine s_iret (tb_ok aX8_taken_1 16 rfl) rfl ?_
                  exact afZ (by rw [hk]; rfl) FrE.refl
                · exact absurd c53 (by decide)
              · exact absurd c35 (by decide)
    · exact absurd c20 (by decide)
  · exact absurd c9 (by decide)

set_option maxRecDepth 100000 in
set_option maxHeartbeats 1000000 in
theorem R_take1_4 {X : En} {L : FL} {q : Nat × Nat} {I : FI} {m : Nat} {fr fa : Nat → Int32} {M : Nat} {T : Nat → Nat → Int32} {d : Nat} {sem : Nat → Sem} (h : RSt I m fr fa M T d sem) {j : Nat} (hj : j < M) (hk : T j 0 = 1) : Ev X 60 mX8_taken (0, 0) [.ref 66, .int (nI j), .int (4)] S0 I L (R0 q) (AfZ q eB I (if isoF 4 6 (T j 0) = 1 then T j 1 else -13)) := by
  have hM5 := h.M5
  refine ev_of (by decide +kernel) rfl ?_
  show SW X _ _ _ 0 [some (.ref 66), some (.int (nI j)), some (.int (4)), none] [] S0 I L (R0 q) _
  refine s_iload_n (tb_ok aX8_taken_0 0 rfl) rfl ?_
  refine s_i2l (tb_ok aX8_taken_0 1 rfl) ?_
  refine s_lconst (v := 0) (tb_ok aX8_taken_0 2 rfl) (by decide) ?_
  refine s_ldc2 (tb_ok aX8_taken_0 3 rfl) k_RX8_111 ?_
  refine s_cSp (as := [_, .long (0), .long (5)]) (tb_ok aX8_taken_0 4 rfl) v_RX8_73 (R_in _ _ _) (by decide) rfl rfl (Nat.le_of_ble_eq_true rfl) ?_
  refine s_topi (bI_t (by decide)) ?_
  refine s_if_ne (tgt := 15) (tb_ok aX8_taken_0 5 rfl) (by decide) (fun c9 => ?_) (fun c9 => ?_)
  · refine s_aload_n (tb_ok aX8_taken_0 8 rfl) rfl ?_
    refine s_iload_n (tb_ok aX8_taken_0 9 rfl) rfl ?_
    refine s_cVp (as := [.int (nI j)]) (tb_ok aX8_taken_0 10 rfl) v_RX8_90 (R_isHouse h.mn _) (by decide) rfl rfl rfl rfl rfl (Nat.le_of_ble_eq_true rfl) (by decide) ?_
    refine s_topi (bI_t (vH_t hj hM5)) ?_
    refine s_if_ne (tgt := 26) (tb_ok aX8_taken_0 11 rfl) (by decide) (fun c20 => ?_) (fun c20 => ?_)
    · refine s_aload_n (tb_ok aX8_taken_0 14 rfl) rfl ?_
      refine s_getR (r := 72) (tb_ok aX8_taken_0 15 rfl) f_RX8_29 rfl rfl rfl ?_
      refine s_iload_n (tb_ok aX8_taken_0 16 rfl) rfl ?_
      refine s_ialdX (x := (1)) (tb_ok aX8_taken_0 17 rfl) rfl (by omega) (by decide) ((h.c0 hj).trans hk) ?_
      refine s_istore_n (ls' := [some (.ref 66), some (.int (nI j)), some (.int (4)), some (.int (1))]) (tb_ok aX8_taken_0 18 rfl) rfl rfl ?_
      refine s_iload_n (tb_ok aX8_taken_0 19 rfl) rfl ?_
      refine s_iconst (v := -1) (tb_ok aX8_taken_0 20 rfl) (by decide) ?_
      refine s_icmp_eq (tgt := 51) (tb_ok aX8_taken_0 21 rfl) (by decide) (fun c35 => ?_) (fun c35 => ?_)
      · exact absurd c35 (by decide)
      · refine s_iload_n (tb_ok aX8_taken_0 22 rfl) rfl ?_
        refine s_iload_n (tb_ok aX8_taken_0 23 rfl) rfl ?_
        refine s_icmp_eq (tgt := 51) (tb_ok aX8_taken_1 0 rfl) (by decide) (fun c40 => ?_) (fun c40 => ?_)
        · exact absurd c40 (by decide)
        · refine s_iload_n (tb_ok aX8_taken_1 1 rfl) rfl ?_
          refine s_cSp (as := [.int (1)]) (tb_ok aX8_taken_1 2 rfl) v_RX8_451 (R_over1) (by decide) rfl rfl (Nat.le_of_ble_eq_true rfl) ?_
          refine s_istore_n (ls' := [some (.ref 66), some (.int (nI j)), some (.int (4)), some (.int (0))]) (tb_ok aX8_taken_1 3 rfl) rfl rfl ?_
          refine s_goto (tgt := 33) (tb_ok aX8_taken_1 4 rfl) (by decide) ?_
          refine s_iload_n (tb_ok aX8_taken_0 19 rfl) rfl ?_
          refine s_iconst (v := -1) (tb_ok aX8_taken_0 20 rfl) (by decide) ?_
          refine s_icmp_eq (tgt := 51) (tb_ok aX8_taken_0 21 rfl) (by decide) (fun c35 => ?_) (fun c35 => ?_)
          · exact absurd c35 (by decide)
          · refine s_iload_n (tb_ok aX8_taken_0 22 rfl) rfl ?_
            refine s_iload_n (tb_ok aX8_taken_0 23 rfl) rfl ?_
            refine s_icmp_eq (tgt := 51) (tb_ok aX8_taken_1 0 rfl) (by decide) (fun c40 => ?_) (fun c40 => ?_)
            · exact absurd c40 (by decide)
            · refine s_iload_n (tb_ok aX8_taken_1 1 rfl) rfl ?_
              refine s_cSp (as := [.int (0)]) (tb_ok aX8_taken_1 2 rfl) v_RX8_451 (R_over0) (by decide) rfl rfl (Nat.le_of_ble_eq_true rfl) ?_
              refine s_istore_n (ls' := [some (.ref 66), some (.int (nI j)), some (.int (4)), some (.int (-1))]) (tb_ok aX8_taken_1 3 rfl) rfl rfl ?_
              refine s_goto (tgt := 33) (tb_ok aX8_taken_1 4 rfl) (by decide) ?_
              refine s_iload_n (tb_ok aX8_taken_0 19 rfl) rfl ?_
              refine s_iconst (v := -1) (tb_ok aX8_taken_0 20 rfl) (by decide) ?_
              refine s_icmp_eq (tgt := 51) (tb_ok aX8_taken_0 21 rfl) (by decide) (fun c35 => ?_) (fun c35 => ?_)
              · refine s_iload_n (tb_ok aX8_taken_1 5 rfl) rfl ?_
                refine s_iload_n (tb_ok aX8_taken_1 6 rfl) rfl ?_
                refine s_icmp_ne (tgt := 67) (tb_ok aX8_taken_1 7 rfl) (by decide) (fun c53 => ?_) (fun c53 => ?_)
                · refine s_bipush (v := -13) (tb_ok aX8_taken_1 15 rfl) (by decide) ?_
                  refine s_iret (tb_ok aX8_taken_1 16 rfl) rfl ?_
                  exact afZ (by rw [hk]; rfl) FrE.refl
                · exact absurd c53 (by decide)
              · exact absurd c35 (by decide)
    · exact absurd c20 (by decide)
  · exact absurd c9 (by decide)

set_option maxRecDepth 100000 in
set_option maxHeartbeats 1000000 in
theorem R_take1_5 {X : En} {L : FL} {q : Nat × Nat} {I : FI} {m : Nat} {fr fa : Nat → Int32} {M : Nat} {T : Nat → Nat → Int32} {d : Nat} {sem : Nat → Sem} (h : RSt I m fr fa M T d sem) {j : Nat} (hj : j < M) (hk : T j 0 = 1) : Ev X 60 mX8_taken (0, 0) [.ref 66, .int (nI j), .int (5)] S0 I L (R0 q) (AfZ q eB I (if isoF 5 6 (T j 0) = 1 then T j 1 else -13)) := by
  have hM5 := h.M5
  refine ev_of (by decide +kernel) rfl ?_
  show SW X _ _ _ 0 [some (.ref 66), some (.int (nI j)), some (.int (5)), none] [] S0 I L (R0 q) _
  refine s_iload_n (tb_ok aX8_taken_0 0 rfl) rfl ?_
  refine s_i2l (tb_ok aX8_taken_0 1 rfl) ?_
  refine s_lconst (v := 0) (tb_ok aX8_taken_0 2 rfl) (by decide) ?_
  refine s_ldc2 (tb_ok aX8_taken_0 3 rfl) k_RX8_111 ?_
  refine s_cSp (as := [_, .long (0), .long (5)]) (tb_ok aX8_taken_0 4 rfl) v_RX8_73 (R_in _ _ _) (by decide) rfl rfl (Nat.le_of_ble_eq_true rfl) ?_
  refine s_topi (bI_t (by decide)) ?_
  refine s_if_ne (tgt := 15) (tb_ok aX8_taken_0 5 rfl) (by decide) (fun c9 => ?_) (fun c9 => ?_)
  · refine s_aload_n (tb_ok aX8_taken_0 8 rfl) rfl ?_
    refine s_iload_n (tb_ok aX8_taken_0 9 rfl) rfl ?_
    refine s_cVp (as := [.int (nI j)]) (tb_ok aX8_taken_0 10 rfl) v_RX8_90 (R_isHouse h.mn _) (by decide) rfl rfl rfl rfl rfl (Nat.le_of_ble_eq_true rfl) (by decide) ?_
    refine s_topi (bI_t (vH_t hj hM5)) ?_
    refine s_if_ne (tgt := 26) (tb_ok aX8_taken_0 11 rfl) (by decide) (fun c20 => ?_) (fun c20 => ?_)
    · refine s_aload_n (tb_ok aX8_taken_0 14 rfl) rfl ?_
      refine s_getR (r := 72) (tb_ok aX8_taken_0 15 rfl) f_RX8_29 rfl rfl rfl ?_
      refine s_iload_n (tb_ok aX8_taken_0 16 rfl) rfl ?_
      refine s_ialdX (x := (1)) (tb_ok aX8_taken_0 17 rfl) rfl (by omega) (by decide) ((h.c0 hj).trans hk) ?_
      refine s_istore_n (ls' := [some (.ref 66), some (.int (nI j)), some (.int (5)), some (.int (1))]) (tb_ok aX8_taken_0 18 rfl) rfl rfl ?_
      refine s_iload_n (tb_ok aX8_taken_0 19 rfl) rfl ?_
      refine s_iconst (v := -1) (tb_ok aX8_taken_0 20 rfl) (by decide) ?_
      refine s_icmp_eq (tgt := 51) (tb_ok aX8_taken_0 21 rfl) (by decide) (fun c35 => ?_) (fun c35 => ?_)
      · exact absurd c35 (by decide)
      · refine s_iload_n (tb_ok aX8_taken_0 22 rfl) rfl ?_
        refine s_iload_n (tb_ok aX8_taken_0 23 rfl) rfl ?_
        refine s_icmp_eq (tgt := 51) (tb_ok aX8_taken_1 0 rfl) (by decide) (fun c40 => ?_) (fun c40 => ?_)
        · exact absurd c40 (by decide)
        · refine s_iload_n (tb_ok aX8_taken_1 1 rfl) rfl ?_
          refine s_cSp (as := [.int (1)]) (tb_ok aX8_taken_1 2 rfl) v_RX8_451 (R_over1) (by decide) rfl rfl (Nat.le_of_ble_eq_true rfl) ?_
          refine s_istore_n (ls' := [some (.ref 66), some (.int (nI j)), some (.int (5)), some (.int (0))]) (tb_ok aX8_taken_1 3 rfl) rfl rfl ?_
          refine s_goto (tgt := 33) (tb_ok aX8_taken_1 4 rfl) (by decide) ?_
          refine s_iload_n (tb_ok aX8_taken_0 19 rfl) rfl ?_
          refine s_iconst (v := -1) (tb_ok aX8_taken_0 20 rfl) (by decide) ?_
          refine s_icmp_eq (tgt := 51) (tb_ok aX8_taken_0 21 rfl) (by decide) (fun c35 => ?_) (fun c35 => ?_)
          · exact absurd c35 (by decide)
          · refine s_iload_n (tb_ok aX8_taken_0 22 rfl) rfl ?_
            refine s_iload_n (tb_ok aX8_taken_0 23 rfl) rfl ?_
            refine s_icmp_eq (tgt := 51) (tb_ok aX8_taken_1 0 rfl) (by decide) (fun c40 => ?_) (fun c40 => ?_)
            · exact absurd c40 (by decide)
            · refine s_iload_n (tb_ok aX8_taken_1 1 rfl) rfl ?_
              refine s_cSp (as := [.int (0)]) (tb_ok aX8_taken_1 2 rfl) v_RX8_451 (R_over0) (by decide) rfl rfl (Nat.le_of_ble_eq_true rfl) ?_
              refine s_istore_n (ls' := [some (.ref 66), some (.int (nI j)), some (.int (5)), some (.int (-1))]) (tb_ok aX8_taken_1 3 rfl) rfl rfl ?_
              refine s_goto (tgt := 33) (tb_ok aX8_taken_1 4 rfl) (by decide) ?_
              refine s_iload_n (tb_ok aX8_taken_0 19 rfl) rfl ?_
              refine s_iconst (v := -1) (tb_ok aX8_taken_0 20 rfl) (by decide) ?_
              refine s_icmp_eq (tgt := 51) (tb_ok aX8_taken_0 21 rfl) (by decide) (fun c35 => ?_) (fun c35 => ?_)
              · refine s_iload_n (tb_ok aX8_taken_1 5 rfl) rfl ?_
                refine s_iload_n (tb_ok aX8_taken_1 6 rfl) rfl ?_
                refine s_icmp_ne (tgt := 67) (tb_ok aX8_taken_1 7 rfl) (by decide) (fun c53 => ?_) (fun c53 => ?_)
                · refine s_bipush (v := -13) (tb_ok aX8_taken_1 15 rfl) (by decide) ?_
                  refine s_iret (tb_ok aX8_taken_1 16 rfl) rfl ?_
                  exact afZ (by rw [hk]; rfl) FrE.refl
                · exact absurd c53 (by decide)
              · exact absurd c35 (by decide)
    · exact absurd c20 (by decide)
  · exact absurd c9 (by decide)

theorem R_takk1 {X : En} {L : FL} {q : Nat × Nat} {I : FI} {m : Nat} {fr fa : Nat → Int32} {M : Nat} {T : Nat → Nat → Int32} {d : Nat} {sem : Nat → Sem} (h : RSt I m fr fa M T d sem) {j k : Nat} (hj : j < M) (hk6 : k < 6) (hk : T j 0 = 1) : Ev X 60 mX8_taken (0, 0) [.ref 66, .int (nI j), .int (nI k)] S0 I L (R0 q) (AfZ q eB I (if isoF (nI k) 6 (T j 0) = 1 then T j 1 else -13)) := by
  have e : k = 0 ∨ k = 1 ∨ k = 2 ∨ k = 3 ∨ k = 4 ∨ k = 5 := by omega
  rcases e with e | e | e | e | e | e <;> subst e
  · exact R_take1_0 h hj hk
  · exact R_take1_1 h hj hk
  · exact R_take1_2 h hj hk
  · exact R_take1_3 h hj hk
  · exact R_take1_4 h hj hk
  · exact R_take1_5 h hj hk
set_option maxRecDepth 100000 in
set_option maxHeartbeats 1000000 in
theorem R_take2_0 {X : En} {L : FL} {q : Nat × Nat} {I : FI} {m : Nat} {fr fa : Nat → Int32} {M : Nat} {T : Nat → Nat → Int32} {d : Nat} {sem : Nat → Sem} (h : RSt I m fr fa M T d sem) {j : Nat} (hj : j < M) (hk : T j 0 = 2) : Ev X 60 mX8_taken (0, 0) [.ref 66, .int (nI j), .int (0)] S0 I L (R0 q) (AfZ q eB I (if isoF 0 6 (T j 0) = 1 then T j 1 else -13)) := by
  have hM5 := h.M5
  refine ev_of (by decide +kernel) rfl ?_
  show SW X _ _ _ 0 [some (.ref 66), some (.int (nI j)), some (.int (0)), none] [] S0 I L (R0 q) _
  refine s_iload_n (tb_ok aX8_taken_0 0 rfl) rfl ?_
  refine s_i2l (tb_ok aX8_taken_0 1 rfl) ?_
  refine s_lconst (v := 0) (tb_ok aX8_taken_0 2 rfl) (by decide) ?_
  refine s_ldc2 (tb_ok aX8_taken_0 3 rfl) k_RX8_111 ?_
  refine s_cSp (as := [_, .long (0), .long (5)]) (tb_ok aX8_taken_0 4 rfl) v_RX8_73 (R_in _ _ _) (by decide) rfl rfl (Nat.le_of_ble_eq_true rfl) ?_
  refine s_topi (bI_t (by decide)) ?_
  refine s_if_ne (tgt := 15) (tb_ok aX8_taken_0 5 rfl) (by decide) (fun c9 => ?_) (fun c9 => ?_)
  · refine s_aload_n (tb_ok aX8_taken_0 8 rfl) rfl ?_
    refine s_iload_n (tb_ok aX8_taken_0 9 rfl) rfl ?_
    refine s_cVp (as := [.int (nI j)]) (tb_ok aX8_taken_0 10 rfl) v_RX8_90 (R_isHouse h.mn _) (by decide) rfl rfl rfl rfl rfl (Nat.le_of_ble_eq_true rfl) (by decide) ?_
    refine s_topi (bI_t (vH_t hj hM5)) ?_
    refine s_if_ne (tgt := 26) (tb_ok aX8_taken_0 11 rfl) (by decide) (fun c20 => ?_) (fun c20 => ?_)
    · refine s_aload_n (tb_ok aX8_taken_0 14 rfl) rfl ?_
      refine s_getR (r := 72) (tb_ok aX8_taken_0 15 rfl) f_RX8_29 rfl rfl rfl ?_
      refine s_iload_n (tb_ok aX8_taken_0 16 rfl) rfl ?_
      refine s_ialdX (x := (2)) (tb_ok aX8_taken_0 17 rfl) rfl (by omega) (by decide) ((h.c0 hj).trans hk) ?_
      refine s_istore_n (ls' := [some (.ref 66), some (.int (nI j)), some (.int (0)), some (.int (2))]) (tb_ok aX8_taken_0 18 rfl) rfl rfl ?_
      refine s_iload_n (tb_ok aX8_taken_0 19 rfl) rfl ?_
      refine s_iconst (v := -1) (tb_ok aX8_taken_0 20 rfl) (by decide) ?_
      refine s_icmp_eq (tgt := 51) (tb_ok aX8_taken_0 21 rfl) (by decide) (fun c35 => ?_) (fun c35 => ?_)
      · exact absurd c35 (by decide)
      · refine s_iload_n (tb_ok aX8_taken_0 22 rfl) rfl ?_
        refine s_iload_n (tb_ok aX8_taken_0 23 rfl) rfl ?_
        refine s_icmp_eq (tgt := 51) (tb_ok aX8_taken_1 0 rfl) (by decide) (fun c40 => ?_) (fun c40 => ?_)
        · exact absurd c40 (by decide)
        · refine s_iload_n (tb_ok aX8_taken_1 1 rfl) rfl ?_
          refine s_cSp (as := [.int (2)]) (tb_ok aX8_taken_1 2 rfl) v_RX8_451 (R_over2) (by decide) rfl rfl (Nat.le_of_ble_eq_true rfl) ?_
          refine s_istore_n (ls' := [some (.ref 66), some (.int (nI j)), some (.int (0)), some (.int (0))]) (tb_ok aX8_taken_1 3 rfl) rfl rfl ?_
          refine s_goto (tgt := 33) (tb_ok aX8_taken_1 4 rfl) (by decide) ?_
          refine s_iload_n (tb_ok aX8_taken_0 19 rfl) rfl ?_
          refine s_iconst (v := -1) (tb_ok aX8_taken_0 20 rfl) (by decide) ?_
          refine s_icmp_eq (tgt := 51) (tb_ok aX8_taken_0 21 rfl) (by decide) (fun c35 => ?_) (fun c35 => ?_)
          · exact absurd c35 (by decide)
          · refine s_iload_n (tb_ok aX8_taken_0 22 rfl) rfl ?_
            refine s_iload_n (tb_ok aX8_taken_0 23 rfl) rfl ?_
            refine s_icmp_eq (tgt := 51) (tb_ok aX8_taken_1 0 rfl) (by decide) (fun c40 => ?_) (fun c40 => ?_)
            · refine s_iload_n (tb_ok aX8_taken_1 5 rfl) rfl ?_
              refine s_iload_n (tb_ok aX8_taken_1 6 rfl) rfl ?_
              refine s_icmp_ne (tgt := 67) (tb_ok aX8_taken_1 7 rfl) (by decide) (fun c53 => ?_) (fun c53 => ?_)
              · exact absurd c53 (by decide)
              · refine s_aload_n (tb_ok aX8_taken_1 8 rfl) rfl ?_
                refine s_getR (r := 73) (tb_ok aX8_taken_1 9 rfl) f_RX8_32 rfl rfl rfl ?_
                refine s_iconst (v := 4) (tb_ok aX8_taken_1 10 rfl) (by decide) ?_
                refine s_iload_n (tb_ok aX8_taken_1 11 rfl) rfl ?_
                refine s_imul (tb_ok aX8_taken_1 12 rfl) ?_
                refine s_topi (z := (nI (4 * j))) (nI_mul 4 j) ?_
                refine s_ialdX (x := (T j 1)) (tb_ok aX8_taken_1 13 rfl) rfl (by omega) (by decide) (h.c1 hj) ?_
                refine s_goto (tgt := 69) (tb_ok aX8_taken_1 14 rfl) (by decide) ?_
                refine s_iret (tb_ok aX8_taken_1 16 rfl) rfl ?_
                exact afZ (by rw [hk]; rfl) FrE.refl
            · exact absurd c40 (by decide)
    · exact absurd c20 (by decide)
  · exact absurd c9 (by decide)

set_option maxRecDepth 100000 in
set_option maxHeartbeats 1000000 in
theorem R_take2_1 {X : En} {L : FL} {q : Nat × Nat} {I : FI} {m : Nat} {fr fa : Nat → Int32} {M : Nat} {T : Nat → Nat → Int32} {d : Nat} {sem : Nat → Sem} (h : RSt I m fr fa M T d sem) {j : Nat} (hj : j < M) (hk : T j 0 = 2) : Ev X 60 mX8_taken (0, 0) [.ref 66, .int (nI j), .int (1)] S0 I L (R0 q) (AfZ q eB I (if isoF 1 6 (T j 0) = 1 then T j 1 else -13)) := by
  have hM5 := h.M5
  refine ev_of (by decide +kernel) rfl ?_
  show SW X _ _ _ 0 [some (.ref 66), some (.int (nI j)), some (.int (1)), none] [] S0 I L (R0 q) _
  refine s_iload_n (tb_ok aX8_taken_0 0 rfl) rfl ?_
  refine s_i2l (tb_ok aX8_taken_0 1 rfl) ?_
  refine s_lconst (v := 0) (tb_ok aX8_taken_0 2 rfl) (by decide) ?_
  refine s_ldc2 (tb_ok aX8_taken_0 3 rfl) k_RX8_111 ?_
  refine s_cSp (as := [_, .long (0), .long (5)]) (tb_ok aX8_taken_0 4 rfl) v_RX8_73 (R_in _ _ _) (by decide) rfl rfl (Nat.le_of_ble_eq_true rfl) ?_
  refine s_topi (bI_t (by decide)) ?_
  refine s_if_ne (tgt := 15) (tb_ok aX8_taken_0 5 rfl) (by decide) (fun c9 => ?_) (fun c9 => ?_)
  · refine s_aload_n (tb_ok aX8_taken_0 8 rfl) rfl ?_
    refine s_iload_n (tb_ok aX8_taken_0 9 rfl) rfl ?_
    refine s_cVp (as := [.int (nI j)]) (tb_ok aX8_taken_0 10 rfl) v_RX8_90 (R_isHouse h.mn _) (by decide) rfl rfl rfl rfl rfl (Nat.le_of_ble_eq_true rfl) (by decide) ?_
    refine s_topi (bI_t (vH_t hj hM5)) ?_
    refine s_if_ne (tgt := 26) (tb_ok aX8_taken_0 11 rfl) (by decide) (fun c20 => ?_) (fun c20 => ?_)
    · refine s_aload_n (tb_ok aX8_taken_0 14 rfl) rfl ?_
      refine s_getR (r := 72) (tb_ok aX8_taken_0 15 rfl) f_RX8_29 rfl rfl rfl ?_
      refine s_iload_n (tb_ok aX8_taken_0 16 rfl) rfl ?_
      refine s_ialdX (x := (2)) (tb_ok aX8_taken_0 17 rfl) rfl (by omega) (by decide) ((h.c0 hj).trans hk) ?_
      refine s_istore_n (ls' := [some (.ref 66), some (.int (nI j)), some (.int (1)), some (.int (2))]) (tb_ok aX8_taken_0 18 rfl) rfl rfl ?_
      refine s_iload_n (tb_ok aX8_taken_0 19 rfl) rfl ?_
      refine s_iconst (v := -1) (tb_ok aX8_taken_0 20 rfl) (by decide) ?_
      refine s_icmp_eq (tgt := 51) (tb_ok aX8_taken_0 21 rfl) (by decide) (fun c35 => ?_) (fun c35 => ?_)
      · exact absurd c35 (by decide)
      · refine s_iload_n (tb_ok aX8_taken_0 22 rfl) rfl ?_
        refine s_iload_n (tb_ok aX8_taken_0 23 rfl) rfl ?_
        refine s_icmp_eq (tgt := 51) (tb_ok aX8_taken_1 0 rfl) (by decide) (fun c40 => ?_) (fun c40 => ?_)
        · exact absurd c40 (by decide)
        · refine s_iload_n (tb_ok aX8_taken_1 1 rfl) rfl ?_
          refine s_cSp (as := [.int (2)]) (tb_ok aX8_taken_1 2 rfl) v_RX8_451 (R_over2) (by decide) rfl rfl (Nat.le_of_ble_eq_true rfl) ?_
          refine s_istore_n (ls' := [some (.ref 66), some (.int (nI j)), some (.int (1)), some (.int (0))]) (tb_ok aX8_taken_1 3 rfl) rfl rfl ?_
          refine s_goto (tgt := 33) (tb_ok aX8_taken_1 4 rfl) (by decide) ?_
          refine s_iload_n (tb_ok aX8_taken_0 19 rfl) rfl ?_
          refine s_iconst (v := -1) (tb_ok aX8_taken_0 20 rfl) (by decide) ?_
          refine s_icmp_eq (tgt := 51) (tb_ok aX8_taken_0 21 rfl) (by decide) (fun c35 => ?_) (fun c35 => ?_)
          · exact absurd c35 (by decide)
          · refine s_iload_n (tb_ok aX8_taken_0 22 rfl) rfl ?_
            refine s_iload_n (tb_ok aX8_taken_0 23 rfl) rfl ?_
            refine s_icmp_eq (tgt := 51) (tb_ok aX8_taken_1 0 rfl) (by decide) (fun c40 => ?_) (fun c40 => ?_)
            · exact absurd c40 (by decide)
            · refine s_iload_n (tb_ok aX8_taken_1 1 rfl) rfl ?_
              refine s_cSp (as := [.int (0)]) (tb_ok aX8_taken_1 2 rfl) v_RX8_451 (R_over0) (by decide) rfl rfl (Nat.le_of_ble_eq_true rfl) ?_
              refine s_istore_n (ls' := [some (.ref 66), some (.int (nI j)), some (.int (1)), some (.int (-1))]) (tb_ok aX8_taken_1 3 rfl) rfl rfl ?_
              refine s_goto (tgt := 33) (tb_ok aX8_taken_1 4 rfl) (by decide) ?_
              refine s_iload_n (tb_ok aX8_taken_0 19 rfl) rfl ?_
              refine s_iconst (v := -1) (tb_ok aX8_taken_0 20 rfl) (by decide) ?_
              refine s_icmp_eq (tgt := 51) (tb_ok aX8_taken_0 21 rfl) (by decide) (fun c35 => ?_) (fun c35 => ?_)
              · refine s_iload_n (tb_ok aX8_taken_1 5 rfl) rfl ?_
                refine s_iload_n (tb_ok aX8_taken_1 6 rfl) rfl ?_
                refine s_icmp_ne (tgt := 67) (tb_ok aX8_taken_1 7 rfl) (by decide) (fun c53 => ?_) (fun c53 => ?_)
                · refine s_bipush (v := -13) (tb_ok aX8_taken_1 15 rfl) (by decide) ?_
                  refine s_iret (tb_ok aX8_taken_1 16 rfl) rfl ?_
                  exact afZ (by rw [hk]; rfl) FrE.refl
                · exact absurd c53 (by decide)
              · exact absurd c35 (by decide)
    · exact absurd c20 (by decide)
  · exact absurd c9 (by decide)

set_option maxRecDepth 100000 in
set_option maxHeartbeats 1000000 in
theorem R_take2_2 {X : En} {L : FL} {q : Nat × Nat} {I : FI} {m : Nat} {fr fa : Nat → Int32} {M : Nat} {T : Nat → Nat → Int32} {d : Nat} {sem : Nat → Sem} (h : RSt I m fr fa M T d sem) {j : Nat} (hj : j < M) (hk : T j 0 = 2) : Ev X 60 mX8_taken (0, 0) [.ref 66, .int (nI j), .int (2)] S0 I L (R0 q) (AfZ q eB I (if isoF 2 6 (T j 0) = 1 then T j 1 else -13)) := by
  have hM5 := h.M5
  refine ev_of (by decide +kernel) rfl ?_
  show SW X _ _ _ 0 [some (.ref 66), some (.int (nI j)), some (.int (2)), none] [] S0 I L (R0 q) _
  refine s_iload_n (tb_ok aX8_taken_0 0 rfl) rfl ?_
  refine s_i2l (tb_ok aX8_taken_0 1 rfl) ?_
  refine s_lconst (v := 0) (tb_ok aX8_taken_0 2 rfl) (by decide) ?_
  refine s_ldc2 (tb_ok aX8_taken_0 3 rfl) k_RX8_111 ?_
  refine s_cSp (as := [_, .long (0), .long (5)]) (tb_ok aX8_taken_0 4 rfl) v_RX8_73 (R_in _ _ _) (by decide) rfl rfl (Nat.le_of_ble_eq_true rfl) ?_
  refine s_topi (bI_t (by decide)) ?_
  refine s_if_ne (tgt := 15) (tb_ok aX8_taken_0 5 rfl) (by decide) (fun c9 => ?_) (fun c9 => ?_)
  · refine s_aload_n (tb_ok aX8_taken_0 8 rfl) rfl ?_
    refine s_iload_n (tb_ok aX8_taken_0 9 rfl) rfl ?_
    refine s_cVp (as := [.int (nI j)]) (tb_ok aX8_taken_0 10 rfl) v_RX8_90 (R_isHouse h.mn _) (by decide) rfl rfl rfl rfl rfl (Nat.le_of_ble_eq_true rfl) (by decide) ?_
    refine s_topi (bI_t (vH_t hj hM5)) ?_
    refine s_if_ne (tgt := 26) (tb_ok aX8_taken_0 11 rfl) (by decide) (fun c20 => ?_) (fun c20 => ?_)
    · refine s_aload_n (tb_ok aX8_taken_0 14 rfl) rfl ?_
      refine s_getR (r := 72) (tb_ok aX8_taken_0 15 rfl) f_RX8_29 rfl rfl rfl ?_
      refine s_iload_n (tb_ok aX8_taken_0 16 rfl) rfl ?_
      refine s_ialdX (x := (2)) (tb_ok aX8_taken_0 17 rfl) rfl (by omega) (by decide) ((h.c0 hj).trans hk) ?_
      refine s_istore_n (ls' := [some (.ref 66), some (.int (nI j)), some (.int (2)), some (.int (2))]) (tb_ok aX8_taken_0 18 rfl) rfl rfl ?_
      refine s_iload_n (tb_ok aX8_taken_0 19 rfl) rfl ?_
      refine s_iconst (v := -1) (tb_ok aX8_taken_0 20 rfl) (by decide) ?_
      refine s_icmp_eq (tgt := 51) (tb_ok aX8_taken_0 21 rfl) (by decide) (fun c35 => ?_) (fun c35 => ?_)
      · exact absurd c35 (by decide)
      · refine s_iload_n (tb_ok aX8_taken_0 22 rfl) rfl ?_
        refine s_iload_n (tb_ok aX8_taken_0 23 rfl) rfl ?_
        refine s_icmp_eq (tgt := 51) (tb_ok aX8_taken_1 0 rfl) (by decide) (fun c40 => ?_) (fun c40 => ?_)
        · refine s_iload_n (tb_ok aX8_taken_1 5 rfl) rfl ?_
          refine s_iload_n (tb_ok aX8_taken_1 6 rfl) rfl ?_
          refine s_icmp_ne (tgt := 67) (tb_ok aX8_taken_1 7 rfl) (by decide) (fun c53 => ?_) (fun c53 => ?_)
          · exact absurd c53 (by decide)
          · refine s_aload_n (tb_ok aX8_taken_1 8 rfl) rfl ?_
            refine s_getR (r := 73) (tb_ok aX8_taken_1 9 rfl) f_RX8_32 rfl rfl rfl ?_
            refine s_iconst (v := 4) (tb_ok aX8_taken_1 10 rfl) (by decide) ?_
            refine s_iload_n (tb_ok aX8_taken_1 11 rfl) rfl ?_
            refine s_imul (tb_ok aX8_taken_1 12 rfl) ?_
            refine s_topi (z := (nI (4 * j))) (nI_mul 4 j) ?_
            refine s_ialdX (x := (T j 1)) (tb_ok aX8_taken_1 13 rfl) rfl (by omega) (by decide) (h.c1 hj) ?_
            refine s_goto (tgt := 69) (tb_ok aX8_taken_1 14 rfl) (by decide) ?_
            refine s_iret (tb_ok aX8_taken_1 16 rfl) rfl ?_
            exact afZ (by rw [hk]; rfl) FrE.refl
        · exact absurd c40 (by decide)
    · exact absurd c20 (by decide)
  · exact absurd c9 (by decide)

set_option maxRecDepth 100000 in
set_option maxHeartbeats 1000000 in
theorem R_take2_3 {X : En} {L : FL} {q : Nat × Nat} {I : FI} {m : Nat} {fr fa : Nat → Int32} {M : Nat} {T : Nat → Nat → Int32} {d : Nat} {sem : Nat → Sem} (h : RSt I m fr fa M T d sem) {j : Nat} (hj : j < M) (hk : T j 0 = 2) : Ev X 60 mX8_taken (0, 0) [.ref 66, .int (nI j), .int (3)] S0 I L (R0 q) (AfZ q eB I (if isoF 3 6 (T j 0) = 1 then T j 1 else -13)) := by
  have hM5 := h.M5
  refine ev_of (by decide +kernel) rfl ?_
  show SW X _ _ _ 0 [some (.ref 66), some (.int (nI j)), some (.int (3)), none] [] S0 I L (R0 q) _
  refine s_iload_n (tb_ok aX8_taken_0 0 rfl) rfl ?_
  refine s_i2l (tb_ok aX8_taken_0 1 rfl) ?_
  refine s_lconst (v := 0) (tb_ok aX8_taken_0 2 rfl) (by decide) ?_
  refine s_ldc2 (tb_ok aX8_taken_0 3 rfl) k_RX8_111 ?_
  refine s_cSp (as := [_, .long (0), .long (5)]) (tb_ok aX8_taken_0 4 rfl) v_RX8_73 (R_in _ _ _) (by decide) rfl rfl (Nat.le_of_ble_eq_true rfl) ?_
  refine s_topi (bI_t (by decide)) ?_
  refine s_if_ne (tgt := 15) (tb_ok aX8_taken_0 5 rfl) (by decide) (fun c9 => ?_) (fun c9 => ?_)
  · refine s_aload_n (tb_ok aX8_taken_0 8 rfl) rfl ?_
    refine s_iload_n (tb_ok aX8_taken_0 9 rfl) rfl ?_
    refine s_cVp (as := [.int (nI j)]) (tb_ok aX8_taken_0 10 rfl) v_RX8_90 (R_isHouse h.mn _) (by decide) rfl rfl rfl rfl rfl (Nat.le_of_ble_eq_true rfl) (by decide) ?_
    refine s_topi (bI_t (vH_t hj hM5)) ?_
    refine s_if_ne (tgt := 26) (tb_ok aX8_taken_0 11 rfl) (by decide) (fun c20 => ?_) (fun c20 => ?_)
    · refine s_aload_n (tb_ok aX8_taken_0 14 rfl) rfl ?_
      refine s_getR (r := 72) (tb_ok aX8_taken_0 15 rfl) f_RX8_29 rfl rfl rfl ?_
      refine s_iload_n (tb_ok aX8_taken_0 16 rfl) rfl ?_
      refine s_ialdX (x := (2)) (tb_ok aX8_taken_0 17 rfl) rfl (by omega) (by decide) ((h.c0 hj).trans hk) ?_
      refine s_istore_n (ls' := [some (.ref 66), some (.int (nI j)), some (.int (3)), some (.int (2))]) (tb_ok aX8_taken_0 18 rfl) rfl rfl ?_
      refine s_iload_n (tb_ok aX8_taken_0 19 rfl) rfl ?_
      refine s_iconst (v := -1) (tb_ok aX8_taken_0 20 rfl) (by decide) ?_
      refine s_icmp_eq (tgt := 51) (tb_ok aX8_taken_0 21 rfl) (by decide) (fun c35 => ?_) (fun c35 => ?_)
      · exact absurd c35 (by decide)
      · refine s_iload_n (tb_ok aX8_taken_0 22 rfl) rfl ?_
        refine s_iload_n (tb_ok aX8_taken_0 23 rfl) rfl ?_
        refine s_icmp_eq (tgt := 51) (tb_ok aX8_taken_1 0 rfl) (by decide) (fun c40 => ?_) (fun c40 => ?_)
        · exact absurd c40 (by decide)
        · refine s_iload_n (tb_ok aX8_taken_1 1 rfl) rfl ?_
          refine s_cSp (as := [.int (2)]) (tb_ok aX8_taken_1 2 rfl) v_RX8_451 (R_over2) (by decide) rfl rfl (Nat.le_of_ble_eq_true rfl) ?_
          refine s_istore_n (ls' := [some (.ref 66), some (.int (nI j)), some (.int (3)), some (.int (0))]) (tb_ok aX8_taken_1 3 rfl) rfl rfl ?_
          refine s_goto (tgt := 33) (tb_ok aX8_taken_1 4 rfl) (by decide) ?_
          refine s_iload_n (tb_ok aX8_taken_0 19 rfl) rfl ?_
          refine s_iconst (v := -1) (tb_ok aX8_taken_0 20 rfl) (by decide) ?_
          refine s_icmp_eq (tgt := 51) (tb_ok aX8_taken_0 21 rfl) (by decide) (fun c35 => ?_) (fun c35 => ?_)
          · exact absurd c35 (by decide)
          · refine s_iload_n (tb_ok aX8_taken_0 22 rfl) rfl ?_
            refine s_iload_n (tb_ok aX8_taken_0 23 rfl) rfl ?_
            refine s_icmp_eq (tgt := 51) (tb_ok aX8_taken_1 0 rfl) (by decide) (fun c40 => ?_) (fun c40 => ?_)
            · exact absurd c40 (by decide)
            · refine s_iload_n (tb_ok aX8_taken_1 1 rfl) rfl ?_
              refine s_cSp (as := [.int (0)]) (tb_ok aX8_taken_1 2 rfl) v_RX8_451 (R_over0) (by decide) rfl rfl (Nat.le_of_ble_eq_true rfl) ?_
              refine s_istore_n (ls' := [some (.ref 66), some (.int (nI j)), some (.int (3)), some (.int (-1))]) (tb_ok aX8_taken_1 3 rfl) rfl rfl ?_
              refine s_goto (tgt := 33) (tb_ok aX8_taken_1 4 rfl) (by decide) ?_
              refine s_iload_n (tb_ok aX8_taken_0 19 rfl) rfl ?_
              refine s_iconst (v := -1) (tb_ok aX8_taken_0 20 rfl) (by decide) ?_
              refine s_icmp_eq (tgt := 51) (tb_ok aX8_taken_0 21 rfl) (by decide) (fun c35 => ?_) (fun c35 => ?_)
              · refine s_iload_n (tb_ok aX8_taken_1 5 rfl) rfl ?_
                refine s_iload_n (tb_ok aX8_taken_1 6 rfl) rfl ?_
                refine s_icmp_ne (tgt := 67) (tb_ok aX8_taken_1 7 rfl) (by decide) (fun c53 => ?_) (fun c53 => ?_)
                · refine s_bipush (v := -13) (tb_ok aX8_taken_1 15 rfl) (by decide) ?_
                  refine s_iret (tb_ok aX8_taken_1 16 rfl) rfl ?_
                  exact afZ (by rw [hk]; rfl) FrE.refl
                · exact absurd c53 (by decide)
              · exact absurd c35 (by decide)
    · exact absurd c20 (by decide)
  · exact absurd c9 (by decide)

set_option maxRecDepth 100000 in
set_option maxHeartbeats 1000000 in
theorem R_take2_4 {X : En} {L : FL} {q : Nat × Nat} {I : FI} {m : Nat} {fr fa : Nat → Int32} {M : Nat} {T : Nat → Nat → Int32} {d : Nat} {sem : Nat → Sem} (h : RSt I m fr fa M T d sem) {j : Nat} (hj : j < M) (hk : T j 0 = 2) : Ev X 60 mX8_taken (0, 0) [.ref 66, .int (nI j), .int (4)] S0 I L (R0 q) (AfZ q eB I (if isoF 4 6 (T j 0) = 1 then T j 1 else -13)) := by
  have hM5 := h.M5
  refine ev_of (by decide +kernel) rfl ?_
  show SW X _ _ _ 0 [some (.ref 66), some (.int (nI j)), some (.int (4)), none] [] S0 I L (R0 q) _
  refine s_iload_n (tb_ok aX8_taken_0 0 rfl) rfl ?_
  refine s_i2l (tb_ok aX8_taken_0 1 rfl) ?_
  refine s_lconst (v := 0) (tb_ok aX8_taken_0 2 rfl) (by decide) ?_
  refine s_ldc2 (tb_ok aX8_taken_0 3 rfl) k_RX8_111 ?_
  refine s_cSp (as := [_, .long (0), .long (5)]) (tb_ok aX8_taken_0 4 rfl) v_RX8_73 (R_in _ _ _) (by decide) rfl rfl (Nat.le_of_ble_eq_true rfl) ?_
  refine s_topi (bI_t (by decide)) ?_
  refine s_if_ne (tgt := 15) (tb_ok aX8_taken_0 5 rfl) (by decide) (fun c9 => ?_) (fun c9 => ?_)
  · refine s_aload_n (tb_ok aX8_taken_0 8 rfl) rfl ?_
    refine s_iload_n (tb_ok aX8_taken_0 9 rfl) rfl ?_
    refine s_cVp (as := [.int (nI j)]) (tb_ok aX8_taken_0 10 rfl) v_RX8_90 (R_isHouse h.mn _) (by decide) rfl rfl rfl rfl rfl (Nat.le_of_ble_eq_true rfl) (by decide) ?_
    refine s_topi (bI_t (vH_t hj hM5)) ?_
    refine s_if_ne (tgt := 26) (tb_ok aX8_taken_0 11 rfl) (by decide) (fun c20 => ?_) (fun c20 => ?_)
    · refine s_aload_n (tb_ok aX8_taken_0 14 rfl) rfl ?_
      refine s_getR (r := 72) (tb_ok aX8_taken_0 15 rfl) f_RX8_29 rfl rfl rfl ?_
      refine s_iload_n (tb_ok aX8_taken_0 16 rfl) rfl ?_
      refine s_ialdX (x := (2)) (tb_ok aX8_taken_0 17 rfl) rfl (by omega) (by decide) ((h.c0 hj).trans hk) ?_
      refine s_istore_n (ls' := [some (.ref 66), some (.int (nI j)), some (.int (4)), some (.int (2))]) (tb_ok aX8_taken_0 18 rfl) rfl rfl ?_
      refine s_iload_n (tb_ok aX8_taken_0 19 rfl) rfl ?_
      refine s_iconst (v := -1) (tb_ok aX8_taken_0 20 rfl) (by decide) ?_
      refine s_icmp_eq (tgt := 51) (tb_ok aX8_taken_0 21 rfl) (by decide) (fun c35 => ?_) (fun c35 => ?_)
      · exact absurd c35 (by decide)
      · refine s_iload_n (tb_ok aX8_taken_0 22 rfl) rfl ?_
        refine s_iload_n (tb_ok aX8_taken_0 23 rfl) rfl ?_
        refine s_icmp_eq (tgt := 51) (tb_ok aX8_taken_1 0 rfl) (by decide) (fun c40 => ?_) (fun c40 => ?_)
        · exact absurd c40 (by decide)
        · refine s_iload_n (tb_ok aX8_taken_1 1 rfl) rfl ?_
          refine s_cSp (as := [.int (2)]) (tb_ok aX8_taken_1 2 rfl) v_RX8_451 (R_over2) (by decide) rfl rfl (Nat.le_of_ble_eq_true rfl) ?_
          refine s_istore_n (ls' := [some (.ref 66), some (.int (nI j)), some (.int (4)), some (.int (0))]) (tb_ok aX8_taken_1 3 rfl) rfl rfl ?_
          refine s_goto (tgt := 33) (tb_ok aX8_taken_1 4 rfl) (by decide) ?_
          refine s_iload_n (tb_ok aX8_taken_0 19 rfl) rfl ?_
          refine s_iconst (v := -1) (tb_ok aX8_taken_0 20 rfl) (by decide) ?_
          refine s_icmp_eq (tgt := 51) (tb_ok aX8_taken_0 21 rfl) (by decide) (fun c35 => ?_) (fun c35 => ?_)
          · exact absurd c35 (by decide)
          · refine s_iload_n (tb_ok aX8_taken_0 22 rfl) rfl ?_
            refine s_iload_n (tb_ok aX8_taken_0 23 rfl) rfl ?_
            refine s_icmp_eq (tgt := 51) (tb_ok aX8_taken_1 0 rfl) (by decide) (fun c40 => ?_) (fun c40 => ?_)
            · exact absurd c40 (by decide)
            · refine s_iload_n (tb_ok aX8_taken_1 1 rfl) rfl ?_
              refine s_cSp (as := [.int (0)]) (tb_ok aX8_taken_1 2 rfl) v_RX8_451 (R_over0) (by decide) rfl rfl (Nat.le_of_ble_eq_true rfl) ?_
              refine s_istore_n (ls' := [some (.ref 66), some (.int (nI j)), some (.int (4)), some (.int (-1))]) (tb_ok aX8_taken_1 3 rfl) rfl rfl ?_
              refine s_goto (tgt := 33) (tb_ok aX8_taken_1 4 rfl) (by decide) ?_
              refine s_iload_n (tb_ok aX8_taken_0 19 rfl) rfl ?_
              refine s_iconst (v := -1) (tb_ok aX8_taken_0 20 rfl) (by decide) ?_
              refine s_icmp_eq (tgt := 51) (tb_ok aX8_taken_0 21 rfl) (by decide) (fun c35 => ?_) (fun c35 => ?_)
              · refine s_iload_n (tb_ok aX8_taken_1 5 rfl) rfl ?_
                refine s_iload_n (tb_ok aX8_taken_1 6 rfl) rfl ?_
                refine s_icmp_ne (tgt := 67) (tb_ok aX8_taken_1 7 rfl) (by decide) (fun c53 => ?_) (fun c53 => ?_)
                · refine s_bipush (v := -13) (tb_ok aX8_taken_1 15 rfl) (by decide) ?_
                  refine s_iret (tb_ok aX8_taken_1 16 rfl) rfl ?_
                  exact afZ (by rw [hk]; rfl) FrE.refl
                · exact absurd c53 (by decide)
              · exact absurd c35 (by decide)
    · exact absurd c20 (by decide)
  · exact absurd c9 (by decide)

set_option maxRecDepth 100000 in
set_option maxHeartbeats 1000000 in
theorem R_take2_5 {X : En} {L : FL} {q : Nat × Nat} {I : FI} {m : Nat} {fr fa : Nat → Int32} {M : Nat} {T : Nat → Nat → Int32} {d : Nat} {sem : Nat → Sem} (h : RSt I m fr fa M T d sem) {j : Nat} (hj : j < M) (hk : T j 0 = 2) : Ev X 60 mX8_taken (0, 0) [.ref 66, .int (nI j), .int (5)] S0 I L (R0 q) (AfZ q eB I (if isoF 5 6 (T j 0) = 1 then T j 1 else -13)) := by
  have hM5 := h.M5
  refine ev_of (by decide +kernel) rfl ?_
  show SW X _ _ _ 0 [some (.ref 66), some (.int (nI j)), some (.int (5)), none] [] S0 I L (R0 q) _
  refine s_iload_n (tb_ok aX8_taken_0 0 rfl) rfl ?_
  refine s_i2l (tb_ok aX8_taken_0 1 rfl) ?_
  refine s_lconst (v := 0) (tb_ok aX8_taken_0 2 rfl) (by decide) ?_
  refine s_ldc2 (tb_ok aX8_taken_0 3 rfl) k_RX8_111 ?_
  refine s_cSp (as := [_, .long (0), .long (5)]) (tb_ok aX8_taken_0 4 rfl) v_RX8_73 (R_in _ _ _) (by decide) rfl rfl (Nat.le_of_ble_eq_true rfl) ?_
  refine s_topi (bI_t (by decide)) ?_
  refine s_if_ne (tgt := 15) (tb_ok aX8_taken_0 5 rfl) (by decide) (fun c9 => ?_) (fun c9 => ?_)
  · refine s_aload_n (tb_ok aX8_taken_0 8 rfl) rfl ?_
    refine s_iload_n (tb_ok aX8_taken_0 9 rfl) rfl ?_
    refine s_cVp (as := [.int (nI j)]) (tb_ok aX8_taken_0 10 rfl) v_RX8_90 (R_isHouse h.mn _) (by decide) rfl rfl rfl rfl rfl (Nat.le_of_ble_eq_true rfl) (by decide) ?_
    refine s_topi (bI_t (vH_t hj hM5)) ?_
    refine s_if_ne (tgt := 26) (tb_ok aX8_taken_0 11 rfl) (by decide) (fun c20 => ?_) (fun c20 => ?_)
    · refine s_aload_n (tb_ok aX8_taken_0 14 rfl) rfl ?_
      refine s_getR (r := 72) (tb_ok aX8_taken_0 15 rfl) f_RX8_29 rfl rfl rfl ?_
      refine s_iload_n (tb_ok aX8_taken_0 16 rfl) rfl ?_
      refine s_ialdX (x := (2)) (tb_ok aX8_taken_0 17 rfl) rfl (by omega) (by decide) ((h.c0 hj).trans hk) ?_
      refine s_istore_n (ls' := [some (.ref 66), some (.int (nI j)), some (.int (5)), some (.int (2))]) (tb_ok aX8_taken_0 18 rfl) rfl rfl ?_
      refine s_iload_n (tb_ok aX8_taken_0 19 rfl) rfl ?_
      refine s_iconst (v := -1) (tb_ok aX8_taken_0 20 rfl) (by decide) ?_
      refine s_icmp_eq (tgt := 51) (tb_ok aX8_taken_0 21 rfl) (by decide) (fun c35 => ?_) (fun c35 => ?_)
      · exact absurd c35 (by decide)
      · refine s_iload_n (tb_ok aX8_taken_0 22 rfl) rfl ?_
        refine s_iload_n (tb_ok aX8_taken_0 23 rfl) rfl ?_
        refine s_icmp_eq (tgt := 51) (tb_ok aX8_taken_1 0 rfl) (by decide) (fun c40 => ?_) (fun c40 => ?_)
        · exact absurd c40 (by decide)
        · refine s_iload_n (tb_ok aX8_taken_1 1 rfl) rfl ?_
          refine s_cSp (as := [.int (2)]) (tb_ok aX8_taken_1 2 rfl) v_RX8_451 (R_over2) (by decide) rfl rfl (Nat.le_of_ble_eq_true rfl) ?_
          refine s_istore_n (ls' := [some (.ref 66), some (.int (nI j)), some (.int (5)), some (.int (0))]) (tb_ok aX8_taken_1 3 rfl) rfl rfl ?_
          refine s_goto (tgt := 33) (tb_ok aX8_taken_1 4 rfl) (by decide) ?_
          refine s_iload_n (tb_ok aX8_taken_0 19 rfl) rfl ?_
          refine s_iconst (v := -1) (tb_ok aX8_taken_0 20 rfl) (by decide) ?_
          refine s_icmp_eq (tgt := 51) (tb_ok aX8_taken_0 21 rfl) (by decide) (fun c35 => ?_) (fun c35 => ?_)
          · exact absurd c35 (by decide)
          · refine s_iload_n (tb_ok aX8_taken_0 22 rfl) rfl ?_
            refine s_iload_n (tb_ok aX8_taken_0 23 rfl) rfl ?_
            refine s_icmp_eq (tgt := 51) (tb_ok aX8_taken_1 0 rfl) (by decide) (fun c40 => ?_) (fun c40 => ?_)
            · exact absurd c40 (by decide)
            · refine s_iload_n (tb_ok aX8_taken_1 1 rfl) rfl ?_
              refine s_cSp (as := [.int (0)]) (tb_ok aX8_taken_1 2 rfl) v_RX8_451 (R_over0) (by decide) rfl rfl (Nat.le_of_ble_eq_true rfl) ?_
              refine s_istore_n (ls' := [some (.ref 66), some (.int (nI j)), some (.int (5)), some (.int (-1))]) (tb_ok aX8_taken_1 3 rfl) rfl rfl ?_
              refine s_goto (tgt := 33) (tb_ok aX8_taken_1 4 rfl) (by decide) ?_
              refine s_iload_n (tb_ok aX8_taken_0 19 rfl) rfl ?_
              refine s_iconst (v := -1) (tb_ok aX8_taken_0 20 rfl) (by decide) ?_
              refine s_icmp_eq (tgt := 51) (tb_ok aX8_taken_0 21 rfl) (by decide) (fun c35 => ?_) (fun c35 => ?_)
              · refine s_iload_n (tb_ok aX8_taken_1 5 rfl) rfl ?_
                refine s_iload_n (tb_ok aX8_taken_1 6 rfl) rfl ?_
                refine s_icmp_ne (tgt := 67) (tb_ok aX8_taken_1 7 rfl) (by decide) (fun c53 => ?_) (fun c53 => ?_)
                · refine s_bipush (v := -13) (tb_ok aX8_taken_1 15 rfl) (by decide) ?_
                  refine s_iret (tb_ok aX8_taken_1 16 rfl) rfl ?_
                  exact afZ (by rw [hk]; rfl) FrE.refl
                · exact absurd c53 (by decide)
              · exact absurd c35 (by decide)
    · exact absurd c20 (by decide)
  · exact absurd c9 (by decide)

theorem R_takk2 {X : En} {L : FL} {q : Nat × Nat} {I : FI} {m : Nat} {fr fa : Nat → Int32} {M : Nat} {T : Nat → Nat → Int32} {d : Nat} {sem : Nat → Sem} (h : RSt I m fr fa M T d sem) {j k : Nat} (hj : j < M) (hk6 : k < 6) (hk : T j 0 = 2) : Ev X 60 mX8_taken (0, 0) [.ref 66, .int (nI j), .int (nI k)] S0 I L (R0 q) (AfZ q eB I (if isoF (nI k) 6 (T j 0) = 1 then T j 1 else -13)) := by
  have e : k = 0 ∨ k = 1 ∨ k = 2 ∨ k = 3 ∨ k = 4 ∨ k = 5 := by omega
  rcases e with e | e | e | e | e | e <;> subst e
  · exact R_take2_0 h hj hk
  · exact R_take2_1 h hj hk
  · exact R_take2_2 h hj hk
  · exact R_take2_3 h hj hk
  · exact R_take2_4 h hj hk
  · exact R_take2_5 h hj hk
set_option maxRecDepth 100000 in
set_option maxHeartbeats 1000000 in
theorem R_take3_0 {X : En} {L : FL} {q : Nat × Nat} {I : FI} {m : Nat} {fr fa : Nat → Int32} {M : Nat} {T : Nat → Nat → Int32} {d : Nat} {sem : Nat → Sem} (h : RSt I m fr fa M T d sem) {j : Nat} (hj : j < M) (hk : T j 0 = 3) : Ev X 60 mX8_taken (0, 0) [.ref 66, .int (nI j), .int (0)] S0 I L (R0 q) (AfZ q eB I (if isoF 0 6 (T j 0) = 1 then T j 1 else -13)) := by
  have hM5 := h.M5
  refine ev_of (by decide +kernel) rfl ?_
  show SW X _ _ _ 0 [some (.ref 66), some (.int (nI j)), some (.int (0)), none] [] S0 I L (R0 q) _
  refine s_iload_n (tb_ok aX8_taken_0 0 rfl) rfl ?_
  refine s_i2l (tb_ok aX8_taken_0 1 rfl) ?_
  refine s_lconst (v := 0) (tb_ok aX8_taken_0 2 rfl) (by decide) ?_
  refine s_ldc2 (tb_ok aX8_taken_0 3 rfl) k_RX8_111 ?_
  refine s_cSp (as := [_, .long (0), .long (5)]) (tb_ok aX8_taken_0 4 rfl) v_RX8_73 (R_in _ _ _) (by decide) rfl rfl (Nat.le_of_ble_eq_true rfl) ?_
  refine s_topi (bI_t (by decide)) ?_
  refine s_if_ne (tgt := 15) (tb_ok aX8_taken_0 5 rfl) (by decide) (fun c9 => ?_) (fun c9 => ?_)
  · refine s_aload_n (tb_ok aX8_taken_0 8 rfl) rfl ?_
    refine s_iload_n (tb_ok aX8_taken_0 9 rfl) rfl ?_
    refine s_cVp (as := [.int (nI j)]) (tb_ok aX8_taken_0 10 rfl) v_RX8_90 (R_isHouse h.mn _) (by decide) rfl rfl rfl rfl rfl (Nat.le_of_ble_eq_true rfl) (by decide) ?_
    refine s_topi (bI_t (vH_t hj hM5)) ?_
    refine s_if_ne (tgt := 26) (tb_ok aX8_taken_0 11 rfl) (by decide) (fun c20 => ?_) (fun c20 => ?_)
    · refine s_aload_n (tb_ok aX8_taken_0 14 rfl) rfl ?_
      refine s_getR (r := 72) (tb_ok aX8_taken_0 15 rfl) f_RX8_29 rfl rfl rfl ?_
      refine s_iload_n (tb_ok aX8_taken_0 16 rfl) rfl ?_
      refine s_ialdX (x := (3)) (tb_ok aX8_taken_0 17 rfl) rfl (by omega) (by decide) ((h.c0 hj).trans hk) ?_
      refine s_istore_n (ls' := [some (.ref 66), some (.int (nI j)), some (.int (0)), some (.int (3))]) (tb_ok aX8_taken_0 18 rfl) rfl rfl ?_
      refine s_iload_n (tb_ok aX8_taken_0 19 rfl) rfl ?_
      refine s_iconst (v := -1) (tb_ok aX8_taken_0 20 rfl) (by decide) ?_
      refine s_icmp_eq (tgt := 51) (tb_ok aX8_taken_0 21 rfl) (by decide) (fun c35 => ?_) (fun c35 => ?_)
      · exact absurd c35 (by decide)
      · refine s_iload_n (tb_ok aX8_taken_0 22 rfl) rfl ?_
        refine s_iload_n (tb_ok aX8_taken_0 23 rfl) rfl ?_
        refine s_icmp_eq (tgt := 51) (tb_ok aX8_taken_1 0 rfl) (by decide) (fun c40 => ?_) (fun c40 => ?_)
        · exact absurd c40 (by decide)
        · refine s_iload_n (tb_ok aX8_taken_1 1 rfl) rfl ?_
          refine s_cSp (as := [.int (3)]) (tb_ok aX8_taken_1 2 rfl) v_RX8_451 (R_over3) (by decide) rfl rfl (Nat.le_of_ble_eq_true rfl) ?_
          refine s_istore_n (ls' := [some (.ref 66), some (.int (nI j)), some (.int (0)), some (.int (1))]) (tb_ok aX8_taken_1 3 rfl) rfl rfl ?_
          refine s_goto (tgt := 33) (tb_ok aX8_taken_1 4 rfl) (by decide) ?_
          refine s_iload_n (tb_ok aX8_taken_0 19 rfl) rfl ?_
          refine s_iconst (v := -1) (tb_ok aX8_taken_0 20 rfl) (by decide) ?_
          refine s_icmp_eq (tgt := 51) (tb_ok aX8_taken_0 21 rfl) (by decide) (fun c35 => ?_) (fun c35 => ?_)
          · exact absurd c35 (by decide)
          · refine s_iload_n (tb_ok aX8_taken_0 22 rfl) rfl ?_
            refine s_iload_n (tb_ok aX8_taken_0 23 rfl) rfl ?_
            refine s_icmp_eq (tgt := 51) (tb_ok aX8_taken_1 0 rfl) (by decide) (fun c40 => ?_) (fun c40 => ?_)
            · exact absurd c40 (by decide)
            · refine s_iload_n (tb_ok aX8_taken_1 1 rfl) rfl ?_
              refine s_cSp (as := [.int (1)]) (tb_ok aX8_taken_1 2 rfl) v_RX8_451 (R_over1) (by decide) rfl rfl (Nat.le_of_ble_eq_true rfl) ?_
              refine s_istore_n (ls' := [some (.ref 66), some (.int (nI j)), some (.int (0)), some (.int (0))]) (tb_ok aX8_taken_1 3 rfl) rfl rfl ?_
              refine s_goto (tgt := 33) (tb_ok aX8_taken_1 4 rfl) (by decide) ?_
              refine s_iload_n (tb_ok aX8_taken_0 19 rfl) rfl ?_
              refine s_iconst (v := -1) (tb_ok aX8_taken_0 20 rfl) (by decide) ?_
              refine s_icmp_eq (tgt := 51) (tb_ok aX8_taken_0 21 rfl) (by decide) (fun c35 => ?_) (fun c35 => ?_)
              · exact absurd c35 (by decide)
              · refine s_iload_n (tb_ok aX8_taken_0 22 rfl) rfl ?_
                refine s_iload_n (tb_ok aX8_taken_0 23 rfl) rfl ?_
                refine s_icmp_eq (tgt := 51) (tb_ok aX8_taken_1 0 rfl) (by decide) (fun c40 => ?_) (fun c40 => ?_)
                · refine s_iload_n (tb_ok aX8_taken_1 5 rfl) rfl ?_
                  refine s_iload_n (tb_ok aX8_taken_1 6 rfl) rfl ?_
                  refine s_icmp_ne (tgt := 67) (tb_ok aX8_taken_1 7 rfl) (by decide) (fun c53 => ?_) (fun c53 => ?_)
                  · exact absurd c53 (by decide)
                  · refine s_aload_n (tb_ok aX8_taken_1 8 rfl) rfl ?_
                    refine s_getR (r := 73) (tb_ok aX8_taken_1 9 rfl) f_RX8_32 rfl rfl rfl ?_
                    refine s_iconst (v := 4) (tb_ok aX8_taken_1 10 rfl) (by decide) ?_
                    refine s_iload_n (tb_ok aX8_taken_1 11 rfl) rfl ?_
                    refine s_imul (tb_ok aX8_taken_1 12 rfl) ?_
                    refine s_topi (z := (nI (4 * j))) (nI_mul 4 j) ?_
                    refine s_ialdX (x := (T j 1)) (tb_ok aX8_taken_1 13 rfl) rfl (by omega) (by decide) (h.c1 hj) ?_
                    refine s_goto (tgt := 69) (tb_ok aX8_taken_1 14 rfl) (by decide) ?_
                    refine s_iret (tb_ok aX8_taken_1 16 rfl) rfl ?_
                    exact afZ (by rw [hk]; rfl) FrE.refl
                · exact absurd c40 (by decide)
    · exact absurd c20 (by decide)
  · exact absurd c9 (by decide)

set_option maxRecDepth 100000 in
set_option maxHeartbeats 1000000 in
theorem R_take3_1 {X : En} {L : FL} {q : Nat × Nat} {I : FI} {m : Nat} {fr fa : Nat → Int32} {M : Nat} {T : Nat → Nat → Int32} {d : Nat} {sem : Nat → Sem} (h : RSt I m fr fa M T d sem) {j : Nat} (hj : j < M) (hk : T j 0 = 3) : Ev X 60 mX8_taken (0, 0) [.ref 66, .int (nI j), .int (1)] S0 I L (R0 q) (AfZ q eB I (if isoF 1 6 (T j 0) = 1 then T j 1 else -13)) := by
  have hM5 := h.M5
  refine ev_of (by decide +kernel) rfl ?_
  show SW X _ _ _ 0 [some (.ref 66), some (.int (nI j)), some (.int (1)), none] [] S0 I L (R0 q) _
  refine s_iload_n (tb_ok aX8_taken_0 0 rfl) rfl ?_
  refine s_i2l (tb_ok aX8_taken_0 1 rfl) ?_
  refine s_lconst (v := 0) (tb_ok aX8_taken_0 2 rfl) (by decide) ?_
  refine s_ldc2 (tb_ok aX8_taken_0 3 rfl) k_RX8_111 ?_
  refine s_cSp (as := [_, .long (0), .long (5)]) (tb_ok aX8_taken_0 4 rfl) v_RX8_73 (R_in _ _ _) (by decide) rfl rfl (Nat.le_of_ble_eq_true rfl) ?_
  refine s_topi (bI_t (by decide)) ?_
  refine s_if_ne (tgt := 15) (tb_ok aX8_taken_0 5 rfl) (by decide) (fun c9 => ?_) (fun c9 => ?_)
  · refine s_aload_n (tb_ok aX8_taken_0 8 rfl) rfl ?_
    refine s_iload_n (tb_ok aX8_taken_0 9 rfl) rfl ?_
    refine s_cVp (as := [.int (nI j)]) (tb_ok aX8_taken_0 10 rfl) v_RX8_90 (R_isHouse h.mn _) (by decide) rfl rfl rfl rfl rfl (Nat.le_of_ble_eq_true rfl) (by decide) ?_
    refine s_topi (bI_t (vH_t hj hM5)) ?_
    refine s_if_ne (tgt := 26) (tb_ok aX8_taken_0 11 rfl) (by decide) (fun c20 => ?_) (fun c20 => ?_)
    · refine s_aload_n (tb_ok aX8_taken_0 14 rfl) rfl ?_
      refine s_getR (r := 72) (tb_ok aX8_taken_0 15 rfl) f_RX8_29 rfl rfl rfl ?_
      refine s_iload_n (tb_ok aX8_taken_0 16 rfl) rfl ?_
      refine s_ialdX (x := (3)) (tb_ok aX8_taken_0 17 rfl) rfl (by omega) (by decide) ((h.c0 hj).trans hk) ?_
      refine s_istore_n (ls' := [some (.ref 66), some (.int (nI j)), some (.int (1)), some (.int (3))]) (tb_ok aX8_taken_0 18 rfl) rfl rfl ?_
      refine s_iload_n (tb_ok aX8_taken_0 19 rfl) rfl ?_
      refine s_iconst (v := -1) (tb_ok aX8_taken_0 20 rfl) (by decide) ?_
      refine s_icmp_eq (tgt := 51) (tb_ok aX8_taken_0 21 rfl) (by decide) (fun c35 => ?_) (fun c35 => ?_)
      · exact absurd c35 (by decide)
      · refine s_iload_n (tb_ok aX8_taken_0 22 rfl) rfl ?_
        refine s_iload_n (tb_ok aX8_taken_0 23 rfl) rfl ?_
        refine s_icmp_eq (tgt := 51) (tb_ok aX8_taken_1 0 rfl) (by decide) (fun c40 => ?_) (fun c40 => ?_)
        · exact absurd c40 (by decide)
        · refine s_iload_n (tb_ok aX8_taken_1 1 rfl) rfl ?_
          refine s_cSp (as := [.int (3)]) (tb_ok aX8_taken_1 2 rfl) v_RX8_451 (R_over3) (by decide) rfl rfl (Nat.le_of_ble_eq_true rfl) ?_
          refine s_istore_n (ls' := [some (.ref 66), some (.int (nI j)), some (.int (1)), some (.int (1))]) (tb_ok aX8_taken_1 3 rfl) rfl rfl ?_
          refine s_goto (tgt := 33) (tb_ok aX8_taken_1 4 rfl) (by decide) ?_
          refine s_iload_n (tb_ok aX8_taken_0 19 rfl) rfl ?_
          refine s_iconst (v := -1) (tb_ok aX8_taken_0 20 rfl) (by decide) ?_
          refine s_icmp_eq (tgt := 51) (tb_ok aX8_taken_0 21 rfl) (by decide) (fun c35 => ?_) (fun c35 => ?_)
          · exact absurd c35 (by decide)
          · refine s_iload_n (tb_ok aX8_taken_0 22 rfl) rfl ?_
            refine s_iload_n (tb_ok aX8_taken_0 23 rfl) rfl ?_
            refine s_icmp_eq (tgt := 51) (tb_ok aX8_taken_1 0 rfl) (by decide) (fun c40 => ?_) (fun c40 => ?_)
            · refine s_iload_n (tb_ok aX8_taken_1 5 rfl) rfl ?_
              refine s_iload_n (tb_ok aX8_taken_1 6 rfl) rfl ?_
              refine s_icmp_ne (tgt := 67) (tb_ok aX8_taken_1 7 rfl) (by decide) (fun c53 => ?_) (fun c53 => ?_)
              · exact absurd c53 (by decide)
              · refine s_aload_n (tb_ok aX8_taken_1 8 rfl) rfl ?_
                refine s_getR (r := 73) (tb_ok aX8_taken_1 9 rfl) f_RX8_32 rfl rfl rfl ?_
                refine s_iconst (v := 4) (tb_ok aX8_taken_1 10 rfl) (by decide) ?_
                refine s_iload_n (tb_ok aX8_taken_1 11 rfl) rfl ?_
                refine s_imul (tb_ok aX8_taken_1 12 rfl) ?_
                refine s_topi (z := (nI (4 * j))) (nI_mul 4 j) ?_
                refine s_ialdX (x := (T j 1)) (tb_ok aX8_taken_1 13 rfl) rfl (by omega) (by decide) (h.c1 hj) ?_
                refine s_goto (tgt := 69) (tb_ok aX8_taken_1 14 rfl) (by decide) ?_
                refine s_iret (tb_ok aX8_taken_1 16 rfl) rfl ?_
                exact afZ (by rw [hk]; rfl) FrE.refl
            · exact absurd c40 (by decide)
    · exact absurd c20 (by decide)
  · exact absurd c9 (by decide)

set_option maxRecDepth 100000 in
set_option maxHeartbeats 1000000 in
theorem R_take3_2 {X : En} {L : FL} {q : Nat × Nat} {I : FI} {m : Nat} {fr fa : Nat → Int32} {M : Nat} {T : Nat → Nat → Int32} {d : Nat} {sem : Nat → Sem} (h : RSt I m fr fa M T d sem) {j : Nat} (hj : j < M) (hk : T j 0 = 3) : Ev X 60 mX8_taken (0, 0) [.ref 66, .int (nI j), .int (2)] S0 I L (R0 q) (AfZ q eB I (if isoF 2 6 (T j 0) = 1 then T j 1 else -13)) := by
  have hM5 := h.M5
  refine ev_of (by decide +kernel) rfl ?_
  show SW X _ _ _ 0 [some (.ref 66), some (.int (nI j)), some (.int (2)), none] [] S0 I L (R0 q) _
  refine s_iload_n (tb_ok aX8_taken_0 0 rfl) rfl ?_
  refine s_i2l (tb_ok aX8_taken_0 1 rfl) ?_
  refine s_lconst (v := 0) (tb_ok aX8_taken_0 2 rfl) (by decide) ?_
  refine s_ldc2 (tb_ok aX8_taken_0 3 rfl) k_RX8_111 ?_
  refine s_cSp (as := [_, .long (0), .long (5)]) (tb_ok aX8_taken_0 4 rfl) v_RX8_73 (R_in _ _ _) (by decide) rfl rfl (Nat.le_of_ble_eq_true rfl) ?_
  refine s_topi (bI_t (by decide)) ?_
  refine s_if_ne (tgt := 15) (tb_ok aX8_taken_0 5 rfl) (by decide) (fun c9 => ?_) (fun c9 => ?_)
  · refine s_aload_n (tb_ok aX8_taken_0 8 rfl) rfl ?_
    refine s_iload_n (tb_ok aX8_taken_0 9 rfl) rfl ?_
    refine s_cVp (as := [.int (nI j)]) (tb_ok aX8_taken_0 10 rfl) v_RX8_90 (R_isHouse h.mn _) (by decide) rfl rfl rfl rfl rfl (Nat.le_of_ble_eq_true rfl) (by decide) ?_
    refine s_topi (bI_t (vH_t hj hM5)) ?_
    refine s_if_ne (tgt := 26) (tb_ok aX8_taken_0 11 rfl) (by decide) (fun c20 => ?_) (fun c20 => ?_)
    · refine s_aload_n (tb_ok aX8_taken_0 14 rfl) rfl ?_
      refine s_getR (r := 72) (tb_ok aX8_taken_0 15 rfl) f_RX8_29 rfl rfl rfl ?_
      refine s_iload_n (tb_ok aX8_taken_0 16 rfl) rfl ?_
      refine s_ialdX (x := (3)) (tb_ok aX8_taken_0 17 rfl) rfl (by omega) (by decide) ((h.c0 hj).trans hk) ?_
      refine s_istore_n (ls' := [some (.ref 66), some (.int (nI j)), some (.int (2)), some (.int (3))]) (tb_ok aX8_taken_0 18 rfl) rfl rfl ?_
      refine s_iload_n (tb_ok aX8_taken_0 19 rfl) rfl ?_
      refine s_iconst (v := -1) (tb_ok aX8_taken_0 20 rfl) (by decide) ?_
      refine s_icmp_eq (tgt := 51) (tb_ok aX8_taken_0 21 rfl) (by decide) (fun c35 => ?_) (fun c35 => ?_)
      · exact absurd c35 (by decide)
      · refine s_iload_n (tb_ok aX8_taken_0 22 rfl) rfl ?_
        refine s_iload_n (tb_ok aX8_taken_0 23 rfl) rfl ?_
        refine s_icmp_eq (tgt := 51) (tb_ok aX8_taken_1 0 rfl) (by decide) (fun c40 => ?_) (fun c40 => ?_)
        · exact absurd c40 (by decide)
        · refine s_iload_n (tb_ok aX8_taken_1 1 rfl) rfl ?_
          refine s_cSp (as := [.int (3)]) (tb_ok aX8_taken_1 2 rfl) v_RX8_451 (R_over3) (by decide) rfl rfl (Nat.le_of_ble_eq_true rfl) ?_
          refine s_istore_n (ls' := [some (.ref 66), some (.int (nI j)), some (.int (2)), some (.int (1))]) (tb_ok aX8_taken_1 3 rfl) rfl rfl ?_
          refine s_goto (tgt := 33) (tb_ok aX8_taken_1 4 rfl) (by decide) ?_
          refine s_iload_n (tb_ok aX8_taken_0 19 rfl) rfl ?_
          refine s_iconst (v := -1) (tb_ok aX8_taken_0 20 rfl) (by decide) ?_
          refine s_icmp_eq (tgt := 51) (tb_ok aX8_taken_0 21 rfl) (by decide) (fun c35 => ?_) (fun c35 => ?_)
          · exact absurd c35 (by decide)
          · refine s_iload_n (tb_ok aX8_taken_0 22 rfl) rfl ?_
            refine s_iload_n (tb_ok aX8_taken_0 23 rfl) rfl ?_
            refine s_icmp_eq (tgt := 51) (tb_ok aX8_taken_1 0 rfl) (by decide) (fun c40 => ?_) (fun c40 => ?_)
            · exact absurd c40 (by decide)
            · refine s_iload_n (tb_ok aX8_taken_1 1 rfl) rfl ?_
              refine s_cSp (as := [.int (1)]) (tb_ok aX8_taken_1 2 rfl) v_RX8_451 (R_over1) (by decide) rfl rfl (Nat.le_of_ble_eq_true rfl) ?_
              refine s_istore_n (ls' := [some (.ref 66), some (.int (nI j)), some (.int (2)), some (.int (0))]) (tb_ok aX8_taken_1 3 rfl) rfl rfl ?_
              refine s_goto (tgt := 33) (tb_ok aX8_taken_1 4 rfl) (by decide) ?_
              refine s_iload_n (tb_ok aX8_taken_0 19 rfl) rfl ?_
              refine s_iconst (v := -1) (tb_ok aX8_taken_0 20 rfl) (by decide) ?_
              refine s_icmp_eq (tgt := 51) (tb_ok aX8_taken_0 21 rfl) (by decide) (fun c35 => ?_) (fun c35 => ?_)
              · exact absurd c35 (by decide)
              · refine s_iload_n (tb_ok aX8_taken_0 22 rfl) rfl ?_
                refine s_iload_n (tb_ok aX8_taken_0 23 rfl) rfl ?_
                refine s_icmp_eq (tgt := 51) (tb_ok aX8_taken_1 0 rfl) (by decide) (fun c40 => ?_) (fun c40 => ?_)
                · exact absurd c40 (by decide)
                · refine s_iload_n (tb_ok aX8_taken_1 1 rfl) rfl ?_
                  refine s_cSp (as := [.int (0)]) (tb_ok aX8_taken_1 2 rfl) v_RX8_451 (R_over0) (by decide) rfl rfl (Nat.le_of_ble_eq_true rfl) ?_
                  refine s_istore_n (ls' := [some (.ref 66), some (.int (nI j)), some (.int (2)), some (.int (-1))]) (tb_ok aX8_taken_1 3 rfl) rfl rfl ?_
                  refine s_goto (tgt := 33) (tb_ok aX8_taken_1 4 rfl) (by decide) ?_
                  refine s_iload_n (tb_ok aX8_taken_0 19 rfl) rfl ?_
                  refine s_iconst (v := -1) (tb_ok aX8_taken_0 20 rfl) (by decide) ?_
                  refine s_icmp_eq (tgt := 51) (tb_ok aX8_taken_0 21 rfl) (by decide) (fun c35 => ?_) (fun c35 => ?_)
                  · refine s_iload_n (tb_ok aX8_taken_1 5 rfl) rfl ?_
                    refine s_iload_n (tb_ok aX8_taken_1 6 rfl) rfl ?_
                    refine s_icmp_ne (tgt := 67) (tb_ok aX8_taken_1 7 rfl) (by decide) (fun c53 => ?_) (fun c53 => ?_)
                    · refine s_bipush (v := -13) (tb_ok aX8_taken_1 15 rfl) (by decide) ?_
                      refine s_iret (tb_ok aX8_taken_1 16 rfl) rfl ?_
                      exact afZ (by rw [hk]; rfl) FrE.refl
                    · exact absurd c53 (by decide)
                  · exact absurd c35 (by decide)
    · exact absurd c20 (by decide)
  · exact absurd c9 (by decide)

set_option maxRecDepth 100000 in
set_option maxHeartbeats 1000000 in
theorem R_take3_3 {X : En} {L : FL} {q : Nat × Nat} {I : FI} {m : Nat} {fr fa : Nat → Int32} {M : Nat} {T : Nat → Nat → Int32} {d : Nat} {sem : Nat → Sem} (h : RSt I m fr fa M T d sem) {j : Nat} (hj : j < M) (hk : T j 0 = 3) : Ev X 60 mX8_taken (0, 0) [.ref 66, .int (nI j), .int (3)] S0 I L (R0 q) (AfZ q eB I (if isoF 3 6 (T j 0) = 1 then T j 1 else -13)) := by
  have hM5 := h.M5
  refine ev_of (by decide +kernel) rfl ?_
  show SW X _ _ _ 0 [some (.ref 66), some (.int (nI j)), some (.int (3)), none] [] S0 I L (R0 q) _
  refine s_iload_n (tb_ok aX8_taken_0 0 rfl) rfl ?_
  refine s_i2l (tb_ok aX8_taken_0 1 rfl) ?_
  refine s_lconst (v := 0) (tb_ok aX8_taken_0 2 rfl) (by decide) ?_
  refine s_ldc2 (tb_ok aX8_taken_0 3 rfl) k_RX8_111 ?_
  refine s_cSp (as := [_, .long (0), .long (5)]) (tb_ok aX8_taken_0 4 rfl) v_RX8_73 (R_in _ _ _) (by decide) rfl rfl (Nat.le_of_ble_eq_true rfl) ?_
  refine s_topi (bI_t (by decide)) ?_
  refine s_if_ne (tgt := 15) (tb_ok aX8_taken_0 5 rfl) (by decide) (fun c9 => ?_) (fun c9 => ?_)
  · refine s_aload_n (tb_ok aX8_taken_0 8 rfl) rfl ?_
    refine s_iload_n (tb_ok aX8_taken_0 9 rfl) rfl ?_
    refine s_cVp (as := [.int (nI j)]) (tb_ok aX8_taken_0 10 rfl) v_RX8_90 (R_isHouse h.mn _) (by decide) rfl rfl rfl rfl rfl (Nat.le_of_ble_eq_true rfl) (by decide) ?_
    refine s_topi (bI_t (vH_t hj hM5)) ?_
    refine s_if_ne (tgt := 26) (tb_ok aX8_taken_0 11 rfl) (by decide) (fun c20 => ?_) (fun c20 => ?_)
    · refine s_aload_n (tb_ok aX8_taken_0 14 rfl) rfl ?_
      refine s_getR (r := 72) (tb_ok aX8_taken_0 15 rfl) f_RX8_29 rfl rfl rfl ?_
      refine s_iload_n (tb_ok aX8_taken_0 16 rfl) rfl ?_
      refine s_ialdX (x := (3)) (tb_ok aX8_taken_0 17 rfl) rfl (by omega) (by decide) ((h.c0 hj).trans hk) ?_
      refine s_istore_n (ls' := [some (.ref 66), some (.int (nI j)), some (.int (3)), some (.int (3))]) (tb_ok aX8_taken_0 18 rfl) rfl rfl ?_
      refine s_iload_n (tb_ok aX8_taken_0 19 rfl) rfl ?_
      refine s_iconst (v := -1) (tb_ok aX8_taken_0 20 rfl) (by decide) ?_
      refine s_icmp_eq (tgt := 51) (tb_ok aX8_taken_0 21 rfl) (by decide) (fun c35 => ?_) (fun c35 => ?_)
      · exact absurd c35 (by decide)
      · refine s_iload_n (tb_ok aX8_taken_0 22 rfl) rfl ?_
        refine s_iload_n (tb_ok aX8_taken_0 23 rfl) rfl ?_
        refine s_icmp_eq (tgt := 51) (tb_ok aX8_taken_1 0 rfl) (by decide) (fun c40 => ?_) (fun c40 => ?_)
        · refine s_iload_n (tb_ok aX8_taken_1 5 rfl) rfl ?_
          refine s_iload_n (tb_ok aX8_taken_1 6 rfl) rfl ?_
          refine s_icmp_ne (tgt := 67) (tb_ok aX8_taken_1 7 rfl) (by decide) (fun c53 => ?_) (fun c53 => ?_)
          · exact absurd c53 (by decide)
          · refine s_aload_n (tb_ok aX8_taken_1 8 rfl) rfl ?_
            refine s_getR (r := 73) (tb_ok aX8_taken_1 9 rfl) f_RX8_32 rfl rfl rfl ?_
            refine s_iconst (v := 4) (tb_ok aX8_taken_1 10 rfl) (by decide) ?_
            refine s_iload_n (tb_ok aX8_taken_1 11 rfl) rfl ?_
            refine s_imul (tb_ok aX8_taken_1 12 rfl) ?_
            refine s_topi (z := (nI (4 * j))) (nI_mul 4 j) ?_
            refine s_ialdX (x := (T j 1)) (tb_ok aX8_taken_1 13 rfl) rfl (by omega) (by decide) (h.c1 hj) ?_
            refine s_goto (tgt := 69) (tb_ok aX8_taken_1 14 rfl) (by decide) ?_
            refine s_iret (tb_ok aX8_taken_1 16 rfl) rfl ?_
            exact afZ (by rw [hk]; rfl) FrE.refl
        · exact absurd c40 (by decide)
    · exact absurd c20 (by decide)
  · exact absurd c9 (by decide)

set_option maxRecDepth 100000 in
set_option maxHeartbeats 1000000 in
theorem R_take3_4 {X : En} {L : FL} {q : Nat × Nat} {I : FI} {m : Nat} {fr fa : Nat → Int32} {M : Nat} {T : Nat → Nat → Int32} {d : Nat} {sem : Nat → Sem} (h : RSt I m fr fa M T d sem) {j : Nat} (hj : j < M) (hk : T j 0 = 3) : Ev X 60 mX8_taken (0, 0) [.ref 66, .int (nI j), .int (4)] S0 I L (R0 q) (AfZ q eB I (if isoF 4 6 (T j 0) = 1 then T j 1 else -13)) := by
  have hM5 := h.M5
  refine ev_of (by decide +kernel) rfl ?_
  show SW X _ _ _ 0 [some (.ref 66), some (.int (nI j)), some (.int (4)), none] [] S0 I L (R0 q) _
  refine s_iload_n (tb_ok aX8_taken_0 0 rfl) rfl ?_
  refine s_i2l (tb_ok aX8_taken_0 1 rfl) ?_
  refine s_lconst (v := 0) (tb_ok aX8_taken_0 2 rfl) (by decide) ?_
  refine s_ldc2 (tb_ok aX8_taken_0 3 rfl) k_RX8_111 ?_
  refine s_cSp (as := [_, .long (0), .long (5)]) (tb_ok aX8_taken_0 4 rfl) v_RX8_73 (R_in _ _ _) (by decide) rfl rfl (Nat.le_of_ble_eq_true rfl) ?_
  refine s_topi (bI_t (by decide)) ?_
  refine s_if_ne (tgt := 15) (tb_ok aX8_taken_0 5 rfl) (by decide) (fun c9 => ?_) (fun c9 => ?_)
  · refine s_aload_n (tb_ok aX8_taken_0 8 rfl) rfl ?_
    refine s_iload_n (tb_ok aX8_taken_0 9 rfl) rfl ?_
    refine s_cVp (as := [.int (nI j)]) (tb_ok aX8_taken_0 10 rfl) v_RX8_90 (R_isHouse h.mn _) (by decide) rfl rfl rfl rfl rfl (Nat.le_of_ble_eq_true rfl) (by decide) ?_
    refine s_topi (bI_t (vH_t hj hM5)) ?_
    refine s_if_ne (tgt := 26) (tb_ok aX8_taken_0 11 rfl) (by decide) (fun c20 => ?_) (fun c20 => ?_)
    · refine s_aload_n (tb_ok aX8_taken_0 14 rfl) rfl ?_
      refine s_getR (r := 72) (tb_ok aX8_taken_0 15 rfl) f_RX8_29 rfl rfl rfl ?_
      refine s_iload_n (tb_ok aX8_taken_0 16 rfl) rfl ?_
      refine s_ialdX (x := (3)) (tb_ok aX8_taken_0 17 rfl) rfl (by omega) (by decide) ((h.c0 hj).trans hk) ?_
      refine s_istore_n (ls' := [some (.ref 66), some (.int (nI j)), some (.int (4)), some (.int (3))]) (tb_ok aX8_taken_0 18 rfl) rfl rfl ?_
      refine s_iload_n (tb_ok aX8_taken_0 19 rfl) rfl ?_
      refine s_iconst (v := -1) (tb_ok aX8_taken_0 20 rfl) (by decide) ?_
      refine s_icmp_eq (tgt := 51) (tb_ok aX8_taken_0 21 rfl) (by decide) (fun c35 => ?_) (fun c35 => ?_)
      · exact absurd c35 (by decide)
      · refine s_iload_n (tb_ok aX8_taken_0 22 rfl) rfl ?_
        refine s_iload_n (tb_ok aX8_taken_0 23 rfl) rfl ?_
        refine s_icmp_eq (tgt := 51) (tb_ok aX8_taken_1 0 rfl) (by decide) (fun c40 => ?_) (fun c40 => ?_)
        · exact absurd c40 (by decide)
        · refine s_iload_n (tb_ok aX8_taken_1 1 rfl) rfl ?_
          refine s_cSp (as := [.int (3)]) (tb_ok aX8_taken_1 2 rfl) v_RX8_451 (R_over3) (by decide) rfl rfl (Nat.le_of_ble_eq_true rfl) ?_
          refine s_istore_n (ls' := [some (.ref 66), some (.int (nI j)), some (.int (4)), some (.int (1))]) (tb_ok aX8_taken_1 3 rfl) rfl rfl ?_
          refine s_goto (tgt := 33) (tb_ok aX8_taken_1 4 rfl) (by decide) ?_
          refine s_iload_n (tb_ok aX8_taken_0 19 rfl) rfl ?_
          refine s_iconst (v := -1) (tb_ok aX8_taken_0 20 rfl) (by decide) ?_
          refine s_icmp_eq (tgt := 51) (tb_ok aX8_taken_0 21 rfl) (by decide) (fun c35 => ?_) (fun c35 => ?_)
          · exact absurd c35 (by decide)
          · refine s_iload_n (tb_ok aX8_taken_0 22 rfl) rfl ?_
            refine s_iload_n (tb_ok aX8_taken_0 23 rfl) rfl ?_
            refine s_icmp_eq (tgt := 51) (tb_ok aX8_taken_1 0 rfl) (by decide) (fun c40 => ?_) (fun c40 => ?_)
            · exact absurd c40 (by decide)
            · refine s_iload_n (tb_ok aX8_taken_1 1 rfl) rfl ?_
              refine s_cSp (as := [.int (1)]) (tb_ok aX8_taken_1 2 rfl) v_RX8_451 (R_over1) (by decide) rfl rfl (Nat.le_of_ble_eq_true rfl) ?_
              refine s_istore_n (ls' := [some (.ref 66), some (.int (nI j)), some (.int (4)), some (.int (0))]) (tb_ok aX8_taken_1 3 rfl) rfl rfl ?_
              refine s_goto (tgt := 33) (tb_ok aX8_taken_1 4 rfl) (by decide) ?_
              refine s_iload_n (tb_ok aX8_taken_0 19 rfl) rfl ?_
              refine s_iconst (v := -1) (tb_ok aX8_taken_0 20 rfl) (by decide) ?_
              refine s_icmp_eq (tgt := 51) (tb_ok aX8_taken_0 21 rfl) (by decide) (fun c35 => ?_) (fun c35 => ?_)
              · exact absurd c35 (by decide)
              · refine s_iload_n (tb_ok aX8_taken_0 22 rfl) rfl ?_
                refine s_iload_n (tb_ok aX8_taken_0 23 rfl) rfl ?_
                refine s_icmp_eq (tgt := 51) (tb_ok aX8_taken_1 0 rfl) (by decide) (fun c40 => ?_) (fun c40 => ?_)
                · exact absurd c40 (by decide)
                · refine s_iload_n (tb_ok aX8_taken_1 1 rfl) rfl ?_
                  refine s_cSp (as := [.int (0)]) (tb_ok aX8_taken_1 2 rfl) v_RX8_451 (R_over0) (by decide) rfl rfl (Nat.le_of_ble_eq_true rfl) ?_
                  refine s_istore_n (ls' := [some (.ref 66), some (.int (nI j)), some (.int (4)), some (.int (-1))]) (tb_ok aX8_taken_1 3 rfl) rfl rfl ?_
                  refine s_goto (tgt := 33) (tb_ok aX8_taken_1 4 rfl) (by decide) ?_
                  refine s_iload_n (tb_ok aX8_taken_0 19 rfl) rfl ?_
                  refine s_iconst (v := -1) (tb_ok aX8_taken_0 20 rfl) (by decide) ?_
                  refine s_icmp_eq (tgt := 51) (tb_ok aX8_taken_0 21 rfl) (by decide) (fun c35 => ?_) (fun c35 => ?_)
                  · refine s_iload_n (tb_ok aX8_taken_1 5 rfl) rfl ?_
                    refine s_iload_n (tb_ok aX8_taken_1 6 rfl) rfl ?_
                    refine s_icmp_ne (tgt := 67) (tb_ok aX8_taken_1 7 rfl) (by decide) (fun c53 => ?_) (fun c53 => ?_)
                    · refine s_bipush (v := -13) (tb_ok aX8_taken_1 15 rfl) (by decide) ?_
                      refine s_iret (tb_ok aX8_taken_1 16 rfl) rfl ?_
                      exact afZ (by rw [hk]; rfl) FrE.refl
                    · exact absurd c53 (by decide)
                  · exact absurd c35 (by decide)
    · exact absurd c20 (by decide)
  · exact absurd c9 (by decide)

set_option maxRecDepth 100000 in
set_option maxHeartbeats 1000000 in
theorem R_take3_5 {X : En} {L : FL} {q : Nat × Nat} {I : FI} {m : Nat} {fr fa : Nat → Int32} {M : Nat} {T : Nat → Nat → Int32} {d : Nat} {sem : Nat → Sem} (h : RSt I m fr fa M T d sem) {j : Nat} (hj : j < M) (hk : T j 0 = 3) : Ev X 60 mX8_taken (0, 0) [.ref 66, .int (nI j), .int (5)] S0 I L (R0 q) (AfZ q eB I (if isoF 5 6 (T j 0) = 1 then T j 1 else -13)) := by
  have hM5 := h.M5
  refine ev_of (by decide +kernel) rfl ?_
  show SW X _ _ _ 0 [some (.ref 66), some (.int (nI j)), some (.int (5)), none] [] S0 I L (R0 q) _
  refine s_iload_n (tb_ok aX8_taken_0 0 rfl) rfl ?_
  refine s_i2l (tb_ok aX8_taken_0 1 rfl) ?_
  refine s_lconst (v := 0) (tb_ok aX8_taken_0 2 rfl) (by decide) ?_
  refine s_ldc2 (tb_ok aX8_taken_0 3 rfl) k_RX8_111 ?_
  refine s_cSp (as := [_, .long (0), .long (5)]) (tb_ok aX8_taken_0 4 rfl) v_RX8_73 (R_in _ _ _) (by decide) rfl rfl (Nat.le_of_ble_eq_true rfl) ?_
  refine s_topi (bI_t (by decide)) ?_
  refine s_if_ne (tgt := 15) (tb_ok aX8_taken_0 5 rfl) (by decide) (fun c9 => ?_) (fun c9 => ?_)
  · refine s_aload_n (tb_ok aX8_taken_0 8 rfl) rfl ?_
    refine s_iload_n (tb_ok aX8_taken_0 9 rfl) rfl ?_
    refine s_cVp (as := [.int (nI j)]) (tb_ok aX8_taken_0 10 rfl) v_RX8_90 (R_isHouse h.mn _) (by decide) rfl rfl rfl rfl rfl (Nat.le_of_ble_eq_true rfl) (by decide) ?_
    refine s_topi (bI_t (vH_t hj hM5)) ?_
    refine s_if_ne (tgt := 26) (tb_ok aX8_taken_0 11 rfl) (by decide) (fun c20 => ?_) (fun c20 => ?_)
    · refine s_aload_n (tb_ok aX8_taken_0 14 rfl) rfl ?_
      refine s_getR (r := 72) (tb_ok aX8_taken_0 15 rfl) f_RX8_29 rfl rfl rfl ?_
      refine s_iload_n (tb_ok aX8_taken_0 16 rfl) rfl ?_
      refine s_ialdX (x := (3)) (tb_ok aX8_taken_0 17 rfl) rfl (by omega) (by decide) ((h.c0 hj).trans hk) ?_
      refine s_istore_n (ls' := [some (.ref 66), some (.int (nI j)), some (.int (5)), some (.int (3))]) (tb_ok aX8_taken_0 18 rfl) rfl rfl ?_
      refine s_iload_n (tb_ok aX8_taken_0 19 rfl) rfl ?_
      refine s_iconst (v := -1) (tb_ok aX8_taken_0 20 rfl) (by decide) ?_
      refine s_icmp_eq (tgt := 51) (tb_ok aX8_taken_0 21 rfl) (by decide) (fun c35 => ?_) (fun c35 => ?_)
      · exact absurd c35 (by decide)
      · refine s_iload_n (tb_ok aX8_taken_0 22 rfl) rfl ?_
        refine s_iload_n (tb_ok aX8_taken_0 23 rfl) rfl ?_
        refine s_icmp_eq (tgt := 51) (tb_ok aX8_taken_1 0 rfl) (by decide) (fun c40 => ?_) (fun c40 => ?_)
        · exact absurd c40 (by decide)
        · refine s_iload_n (tb_ok aX8_taken_1 1 rfl) rfl ?_
          refine s_cSp (as := [.int (3)]) (tb_ok aX8_taken_1 2 rfl) v_RX8_451 (R_over3) (by decide) rfl rfl (Nat.le_of_ble_eq_true rfl) ?_
          refine s_istore_n (ls' := [some (.ref 66), some (.int (nI j)), some (.int (5)), some (.int (1))]) (tb_ok aX8_taken_1 3 rfl) rfl rfl ?_
          refine s_goto (tgt := 33) (tb_ok aX8_taken_1 4 rfl) (by decide) ?_
          refine s_iload_n (tb_ok aX8_taken_0 19 rfl) rfl ?_
          refine s_iconst (v := -1) (tb_ok aX8_taken_0 20 rfl) (by decide) ?_
          refine s_icmp_eq (tgt := 51) (tb_ok aX8_taken_0 21 rfl) (by decide) (fun c35 => ?_) (fun c35 => ?_)
          · exact absurd c35 (by decide)
          · refine s_iload_n (tb_ok aX8_taken_0 22 rfl) rfl ?_
            refine s_iload_n (tb_ok aX8_taken_0 23 rfl) rfl ?_
            refine s_icmp_eq (tgt := 51) (tb_ok aX8_taken_1 0 rfl) (by decide) (fun c40 => ?_) (fun c40 => ?_)
            · exact absurd c40 (by decide)
            · refine s_iload_n (tb_ok aX8_taken_1 1 rfl) rfl ?_
              refine s_cSp (as := [.int (1)]) (tb_ok aX8_taken_1 2 rfl) v_RX8_451 (R_over1) (by decide) rfl rfl (Nat.le_of_ble_eq_true rfl) ?_
              refine s_istore_n (ls' := [some (.ref 66), some (.int (nI j)), some (.int (5)), some (.int (0))]) (tb_ok aX8_taken_1 3 rfl) rfl rfl ?_
              refine s_goto (tgt := 33) (tb_ok aX8_taken_1 4 rfl) (by decide) ?_
              refine s_iload_n (tb_ok aX8_taken_0 19 rfl) rfl ?_
              refine s_iconst (v := -1) (tb_ok aX8_taken_0 20 rfl) (by decide) ?_
              refine s_icmp_eq (tgt := 51) (tb_ok aX8_taken_0 21 rfl) (by decide) (fun c35 => ?_) (fun c35 => ?_)
              · exact absurd c35 (by decide)
              · refine s_iload_n (tb_ok aX8_taken_0 22 rfl) rfl ?_
                refine s_iload_n (tb_ok aX8_taken_0 23 rfl) rfl ?_
                refine s_icmp_eq (tgt := 51) (tb_ok aX8_taken_1 0 rfl) (by decide) (fun c40 => ?_) (fun c40 => ?_)
                · exact absurd c40 (by decide)
                · refine s_iload_n (tb_ok aX8_taken_1 1 rfl) rfl ?_
                  refine s_cSp (as := [.int (0)]) (tb_ok aX8_taken_1 2 rfl) v_RX8_451 (R_over0) (by decide) rfl rfl (Nat.le_of_ble_eq_true rfl) ?_
                  refine s_istore_n (ls' := [some (.ref 66), some (.int (nI j)), some (.int (5)), some (.int (-1))]) (tb_ok aX8_taken_1 3 rfl) rfl rfl ?_
                  refine s_goto (tgt := 33) (tb_ok aX8_taken_1 4 rfl) (by decide) ?_
                  refine s_iload_n (tb_ok aX8_taken_0 19 rfl) rfl ?_
                  refine s_iconst (v := -1) (tb_ok aX8_taken_0 20 rfl) (by decide) ?_
                  refine s_icmp_eq (tgt := 51) (tb_ok aX8_taken_0 21 rfl) (by decide) (fun c35 => ?_) (fun c35 => ?_)
                  · refine s_iload_n (tb_ok aX8_taken_1 5 rfl) rfl ?_
                    refine s_iload_n (tb_ok aX8_taken_1 6 rfl) rfl ?_
                    refine s_icmp_ne (tgt := 67) (tb_ok aX8_taken_1 7 rfl) (by decide) (fun c53 => ?_) (fun c53 => ?_)
                    · refine s_bipush (v := -13) (tb_ok aX8_taken_1 15 rfl) (by decide) ?_
                      refine s_iret (tb_ok aX8_taken_1 16 rfl) rfl ?_
                      exact afZ (by rw [hk]; rfl) FrE.refl
                    · exact absurd c53 (by decide)
                  · exact absurd c35 (by decide)
    · exact absurd c20 (by decide)
  · exact absurd c9 (by decide)

theorem R_takk3 {X : En} {L : FL} {q : Nat × Nat} {I : FI} {m : Nat} {fr fa : Nat → Int32} {M : Nat} {T : Nat → Nat → Int32} {d : Nat} {sem : Nat → Sem} (h : RSt I m fr fa M T d sem) {j k : Nat} (hj : j < M) (hk6 : k < 6) (hk : T j 0 = 3) : Ev X 60 mX8_taken (0, 0) [.ref 66, .int (nI j), .int (nI k)] S0 I L (R0 q) (AfZ q eB I (if isoF (nI k) 6 (T j 0) = 1 then T j 1 else -13)) := by
  have e : k = 0 ∨ k = 1 ∨ k = 2 ∨ k = 3 ∨ k = 4 ∨ k = 5 := by omega
  rcases e with e | e | e | e | e | e <;> subst e
  · exact R_take3_0 h hj hk
  · exact R_take3_1 h hj hk
  · exact R_take3_2 h hj hk
  · exact R_take3_3 h hj hk
  · exact R_take3_4 h hj hk
  · exact R_take3_5 h hj hk
set_option maxRecDepth 100000 in
set_option maxHeartbeats 1000000 in
theorem R_take4_0 {X : En} {L : FL} {q : Nat × Nat} {I : FI} {m : Nat} {fr fa : Nat → Int32} {M : Nat} {T : Nat → Nat → Int32} {d : Nat} {sem : Nat → Sem} (h : RSt I m fr fa M T d sem) {j : Nat} (hj : j < M) (hk : T j 0 = 4) : Ev X 60 mX8_taken (0, 0) [.ref 66, .int (nI j), .int (0)] S0 I L (R0 q) (AfZ q eB I (if isoF 0 6 (T j 0) = 1 then T j 1 else -13)) := by
  have hM5 := h.M5
  refine ev_of (by decide +kernel) rfl ?_
  show SW X _ _ _ 0 [some (.ref 66), some (.int (nI j)), some (.int (0)), none] [] S0 I L (R0 q) _
  refine s_iload_n (tb_ok aX8_taken_0 0 rfl) rfl ?_
  refine s_i2l (tb_ok aX8_taken_0 1 rfl) ?_
  refine s_lconst (v := 0) (tb_ok aX8_taken_0 2 rfl) (by decide) ?_
  refine s_ldc2 (tb_ok aX8_taken_0 3 rfl) k_RX8_111 ?_
  refine s_cSp (as := [_, .long (0), .long (5)]) (tb_ok aX8_taken_0 4 rfl) v_RX8_73 (R_in _ _ _) (by decide) rfl rfl (Nat.le_of_ble_eq_true rfl) ?_
  refine s_topi (bI_t (by decide)) ?_
  refine s_if_ne (tgt := 15) (tb_ok aX8_taken_0 5 rfl) (by decide) (fun c9 => ?_) (fun c9 => ?_)
  · refine s_aload_n (tb_ok aX8_taken_0 8 rfl) rfl ?_
    refine s_iload_n (tb_ok aX8_taken_0 9 rfl) rfl ?_
    refine s_cVp (as := [.int (nI j)]) (tb_ok aX8_taken_0 10 rfl) v_RX8_90 (R_isHouse h.mn _) (by decide) rfl rfl rfl rfl rfl (Nat.le_of_ble_eq_true rfl) (by decide) ?_
    refine s_topi (bI_t (vH_t hj hM5)) ?_
    refine s_if_ne (tgt := 26) (tb_ok aX8_taken_0 11 rfl) (by decide) (fun c20 => ?_) (fun c20 => ?_)
    · refine s_aload_n (tb_ok aX8_taken_0 14 rfl) rfl ?_
      refine s_getR (r := 72) (tb_ok aX8_taken_0 15 rfl) f_RX8_29 rfl rfl rfl ?_
      refine s_iload_n (tb_ok aX8_taken_0 16 rfl) rfl ?_
      refine s_ialdX (x := (4)) (tb_ok aX8_taken_0 17 rfl) rfl (by omega) (by decide) ((h.c0 hj).trans hk) ?_
      refine s_istore_n (ls' := [some (.ref 66), some (.int (nI j)), some (.int (0)), some (.int (4))]) (tb_ok aX8_taken_0 18 rfl) rfl rfl ?_
      refine s_iload_n (tb_ok aX8_taken_0 19 rfl) rfl ?_
      refine s_iconst (v := -1) (tb_ok aX8_taken_0 20 rfl) (by decide) ?_
      refine s_icmp_eq (tgt := 51) (tb_ok aX8_taken_0 21 rfl) (by decide) (fun c35 => ?_) (fun c35 => ?_)
      · exact absurd c35 (by decide)
      · refine s_iload_n (tb_ok aX8_taken_0 22 rfl) rfl ?_
        refine s_iload_n (tb_ok aX8_taken_0 23 rfl) rfl ?_
        refine s_icmp_eq (tgt := 51) (tb_ok aX8_taken_1 0 rfl) (by decide) (fun c40 => ?_) (fun c40 => ?_)
        · exact absurd c40 (by decide)
        · refine s_iload_n (tb_ok aX8_taken_1 1 rfl) rfl ?_
          refine s_cSp (as := [.int (4)]) (tb_ok aX8_taken_1 2 rfl) v_RX8_451 (R_over4) (by decide) rfl rfl (Nat.le_of_ble_eq_true rfl) ?_
          refine s_istore_n (ls' := [some (.ref 66), some (.int (nI j)), some (.int (0)), some (.int (2))]) (tb_ok aX8_taken_1 3 rfl) rfl rfl ?_
          refine s_goto (tgt := 33) (tb_ok aX8_taken_1 4 rfl) (by decide) ?_
          refine s_iload_n (tb_ok aX8_taken_0 19 rfl) rfl ?_
          refine s_iconst (v := -1) (tb_ok aX8_taken_0 20 rfl) (by decide) ?_
          refine s_icmp_eq (tgt := 51) (tb_ok aX8_taken_0 21 rfl) (by decide) (fun c35 => ?_) (fun c35 => ?_)
          · exact absurd c35 (by decide)
          · refine s_iload_n (tb_ok aX8_taken_0 22 rfl) rfl ?_
            refine s_iload_n (tb_ok aX8_taken_0 23 rfl) rfl ?_
            refine s_icmp_eq (tgt := 51) (tb_ok aX8_taken_1 0 rfl) (by decide) (fun c40 => ?_) (fun c40 => ?_)
            · exact absurd c40 (by decide)
            · refine s_iload_n (tb_ok aX8_taken_1 1 rfl) rfl ?_
              refine s_cSp (as := [.int (2)]) (tb_ok aX8_taken_1 2 rfl) v_RX8_451 (R_over2) (by decide) rfl rfl (Nat.le_of_ble_eq_true rfl) ?_
              refine s_istore_n (ls' := [some (.ref 66), some (.int (nI j)), some (.int (0)), some (.int (0))]) (tb_ok aX8_taken_1 3 rfl) rfl rfl ?_
              refine s_goto (tgt := 33) (tb_ok aX8_taken_1 4 rfl) (by decide) ?_
              refine s_iload_n (tb_ok aX8_taken_0 19 rfl) rfl ?_
              refine s_iconst (v := -1) (tb_ok aX8_taken_0 20 rfl) (by decide) ?_
              refine s_icmp_eq (tgt := 51) (tb_ok aX8_taken_0 21 rfl) (by decide) (fun c35 => ?_) (fun c35 => ?_)
              · exact absurd c35 (by decide)
              · refine s_iload_n (tb_ok aX8_taken_0 22 rfl) rfl ?_
                refine s_iload_n (tb_ok aX8_taken_0 23 rfl) rfl ?_
                refine s_icmp_eq (tgt := 51) (tb_ok aX8_taken_1 0 rfl) (by decide) (fun c40 => ?_) (fun c40 => ?_)
                · refine s_iload_n (tb_ok aX8_taken_1 5 rfl) rfl ?_
                  refine s_iload_n (tb_ok aX8_taken_1 6 rfl) rfl ?_
                  refine s_icmp_ne (tgt := 67) (tb_ok aX8_taken_1 7 rfl) (by decide) (fun c53 => ?_) (fun c53 => ?_)
                  · exact absurd c53 (by decide)
                  · refine s_aload_n (tb_ok aX8_taken_1 8 rfl) rfl ?_
                    refine s_getR (r := 73) (tb_ok aX8_taken_1 9 rfl) f_RX8_32 rfl rfl rfl ?_
                    refine s_iconst (v := 4) (tb_ok aX8_taken_1 10 rfl) (by decide) ?_
                    refine s_iload_n (tb_ok aX8_taken_1 11 rfl) rfl ?_
                    refine s_imul (tb_ok aX8_taken_1 12 rfl) ?_
                    refine s_topi (z := (nI (4 * j))) (nI_mul 4 j) ?_
                    refine s_ialdX (x := (T j 1)) (tb_ok aX8_taken_1 13 rfl) rfl (by omega) (by decide) (h.c1 hj) ?_
                    refine s_goto (tgt := 69) (tb_ok aX8_taken_1 14 rfl) (by decide) ?_
                    refine s_iret (tb_ok aX8_taken_1 16 rfl) rfl ?_
                    exact afZ (by rw [hk]; rfl) FrE.refl
                · exact absurd c40 (by decide)
    · exact absurd c20 (by decide)
  · exact absurd c9 (by decide)

set_option maxRecDepth 100000 in
set_option maxHeartbeats 1000000 in
theorem R_take4_1 {X : En} {L : FL} {q : Nat × Nat} {I : FI} {m : Nat} {fr fa : Nat → Int32} {M : Nat} {T : Nat → Nat → Int32} {d : Nat} {sem : Nat → Sem} (h : RSt I m fr fa M T d sem) {j : Nat} (hj : j < M) (hk : T j 0 = 4) : Ev X 60 mX8_taken (0, 0) [.ref 66, .int (nI j), .int (1)] S0 I L (R0 q) (AfZ q eB I (if isoF 1 6 (T j 0) = 1 then T j 1 else -13)) := by
  have hM5 := h.M5
  refine ev_of (by decide +kernel) rfl ?_
  show SW X _ _ _ 0 [some (.ref 66), some (.int (nI j)), some (.int (1)), none] [] S0 I L (R0 q) _
  refine s_iload_n (tb_ok aX8_taken_0 0 rfl) rfl ?_
  refine s_i2l (tb_ok aX8_taken_0 1 rfl) ?_
  refine s_lconst (v := 0) (tb_ok aX8_taken_0 2 rfl) (by decide) ?_
  refine s_ldc2 (tb_ok aX8_taken_0 3 rfl) k_RX8_111 ?_
  refine s_cSp (as := [_, .long (0), .long (5)]) (tb_ok aX8_taken_0 4 rfl) v_RX8_73 (R_in _ _ _) (by decide) rfl rfl (Nat.le_of_ble_eq_true rfl) ?_
  refine s_topi (bI_t (by decide)) ?_
  refine s_if_ne (tgt := 15) (tb_ok aX8_taken_0 5 rfl) (by decide) (fun c9 => ?_) (fun c9 => ?_)
  · refine s_aload_n (tb_ok aX8_taken_0 8 rfl) rfl ?_
    refine s_iload_n (tb_ok aX8_taken_0 9 rfl) rfl ?_
    refine s_cVp (as := [.int (nI j)]) (tb_ok aX8_taken_0 10 rfl) v_RX8_90 (R_isHouse h.mn _) (by decide) rfl rfl rfl rfl rfl (Nat.le_of_ble_eq_true rfl) (by decide) ?_
    refine s_topi (bI_t (vH_t hj hM5)) ?_
    refine s_if_ne (tgt := 26) (tb_ok aX8_taken_0 11 rfl) (by decide) (fun c20 => ?_) (fun c20 => ?_)
    · refine s_aload_n (tb_ok aX8_taken_0 14 rfl) rfl ?_
      refine s_getR (r := 72) (tb_ok aX8_taken_0 15 rfl) f_RX8_29 rfl rfl rfl ?_
      refine s_iload_n (tb_ok aX8_taken_0 16 rfl) rfl ?_
      refine s_ialdX (x := (4)) (tb_ok aX8_taken_0 17 rfl) rfl (by omega) (by decide) ((h.c0 hj).trans hk) ?_
      refine s_istore_n (ls' := [some (.ref 66), some (.int (nI j)), some (.int (1)), some (.int (4))]) (tb_ok aX8_taken_0 18 rfl) rfl rfl ?_
      refine s_iload_n (tb_ok aX8_taken_0 19 rfl) rfl ?_
      refine s_iconst (v := -1) (tb_ok aX8_taken_0 20 rfl) (by decide) ?_
      refine s_icmp_eq (tgt := 51) (tb_ok aX8_taken_0 21 rfl) (by decide) (fun c35 => ?_) (fun c35 => ?_)
      · exact absurd c35 (by decide)
      · refine s_iload_n (tb_ok aX8_taken_0 22 rfl) rfl ?_
        refine s_iload_n (tb_ok aX8_taken_0 23 rfl) rfl ?_
        refine s_icmp_eq (tgt := 51) (tb_ok aX8_taken_1 0 rfl) (by decide) (fun c40 => ?_) (fun c40 => ?_)
        · exact absurd c40 (by decide)
        · refine s_iload_n (tb_ok aX8_taken_1 1 rfl) rfl ?_
          refine s_cSp (as := [.int (4)]) (tb_ok aX8_taken_1 2 rfl) v_RX8_451 (R_over4) (by decide) rfl rfl (Nat.le_of_ble_eq_true rfl) ?_
          refine s_istore_n (ls' := [some (.ref 66), some (.int (nI j)), some (.int (1)), some (.int (2))]) (tb_ok aX8_taken_1 3 rfl) rfl rfl ?_
          refine s_goto (tgt := 33) (tb_ok aX8_taken_1 4 rfl) (by decide) ?_
          refine s_iload_n (tb_ok aX8_taken_0 19 rfl) rfl ?_
          refine s_iconst (v := -1) (tb_ok aX8_taken_0 20 rfl) (by decide) ?_
          refine s_icmp_eq (tgt := 51) (tb_ok aX8_taken_0 21 rfl) (by decide) (fun c35 => ?_) (fun c35 => ?_)
          · exact absurd c35 (by decide)
          · refine s_iload_n (tb_ok aX8_taken_0 22 rfl) rfl ?_
            refine s_iload_n (tb_ok aX8_taken_0 23 rfl) rfl ?_
            refine s_icmp_eq (tgt := 51) (tb_ok aX8_taken_1 0 rfl) (by decide) (fun c40 => ?_) (fun c40 => ?_)
            · exact absurd c40 (by decide)
            · refine s_iload_n (tb_ok aX8_taken_1 1 rfl) rfl ?_
              refine s_cSp (as := [.int (2)]) (tb_ok aX8_taken_1 2 rfl) v_RX8_451 (R_over2) (by decide) rfl rfl (Nat.le_of_ble_eq_true rfl) ?_
              refine s_istore_n (ls' := [some (.ref 66), some (.int (nI j)), some (.int (1)), some (.int (0))]) (tb_ok aX8_taken_1 3 rfl) rfl rfl ?_
              refine s_goto (tgt := 33) (tb_ok aX8_taken_1 4 rfl) (by decide) ?_
              refine s_iload_n (tb_ok aX8_taken_0 19 rfl) rfl ?_
              refine s_iconst (v := -1) (tb_ok aX8_taken_0 20 rfl) (by decide) ?_
              refine s_icmp_eq (tgt := 51) (tb_ok aX8_taken_0 21 rfl) (by decide) (fun c35 => ?_) (fun c35 => ?_)
              · exact absurd c35 (by decide)
              · refine s_iload_n (tb_ok aX8_taken_0 22 rfl) rfl ?_
                refine s_iload_n (tb_ok aX8_taken_0 23 rfl) rfl ?_
                refine s_icmp_eq (tgt := 51) (tb_ok aX8_taken_1 0 rfl) (by decide) (fun c40 => ?_) (fun c40 => ?_)
                · exact absurd c40 (by decide)
                · refine s_iload_n (tb_ok aX8_taken_1 1 rfl) rfl ?_
                  refine s_cSp (as := [.int (0)]) (tb_ok aX8_taken_1 2 rfl) v_RX8_451 (R_over0) (by decide) rfl rfl (Nat.le_of_ble_eq_true rfl) ?_
                  refine s_istore_n (ls' := [some (.ref 66), some (.int (nI j)), some (.int (1)), some (.int (-1))]) (tb_ok aX8_taken_1 3 rfl) rfl rfl ?_
                  refine s_goto (tgt := 33) (tb_ok aX8_taken_1 4 rfl) (by decide) ?_
                  refine s_iload_n (tb_ok aX8_taken_0 19 rfl) rfl ?_
                  refine s_iconst (v := -1) (tb_ok aX8_taken_0 20 rfl) (by decide) ?_
                  refine s_icmp_eq (tgt := 51) (tb_ok aX8_taken_0 21 rfl) (by decide) (fun c35 => ?_) (fun c35 => ?_)
                  · refine s_iload_n (tb_ok aX8_taken_1 5 rfl) rfl ?_
                    refine s_iload_n (tb_ok aX8_taken_1 6 rfl) rfl ?_
                    refine s_icmp_ne (tgt := 67) (tb_ok aX8_taken_1 7 rfl) (by decide) (fun c53 => ?_) (fun c53 => ?_)
                    · refine s_bipush (v := -13) (tb_ok aX8_taken_1 15 rfl) (by decide) ?_
                      refine s_iret (tb_ok aX8_taken_1 16 rfl) rfl ?_
                      exact afZ (by rw [hk]; rfl) FrE.refl
                    · exact absurd c53 (by decide)
                  · exact absurd c35 (by decide)
    · exact absurd c20 (by decide)
  · exact absurd c9 (by decide)

set_option maxRecDepth 100000 in
set_option maxHeartbeats 1000000 in
theorem R_take4_2 {X : En} {L : FL} {q : Nat × Nat} {I : FI} {m : Nat} {fr fa : Nat → Int32} {M : Nat} {T : Nat → Nat → Int32} {d : Nat} {sem : Nat → Sem} (h : RSt I m fr fa M T d sem) {j : Nat} (hj : j < M) (hk : T j 0 = 4) : Ev X 60 mX8_taken (0, 0) [.ref 66, .int (nI j), .int (2)] S0 I L (R0 q) (AfZ q eB I (if isoF 2 6 (T j 0) = 1 then T j 1 else -13)) := by
  have hM5 := h.M5
  refine ev_of (by decide +kernel) rfl ?_
  show SW X _ _ _ 0 [some (.ref 66), some (.int (nI j)), some (.int (2)), none] [] S0 I L (R0 q) _
  refine s_iload_n (tb_ok aX8_taken_0 0 rfl) rfl ?_
  refine s_i2l (tb_ok aX8_taken_0 1 rfl) ?_
  refine s_lconst (v := 0) (tb_ok aX8_taken_0 2 rfl) (by decide) ?_
  refine s_ldc2 (tb_ok aX8_taken_0 3 rfl) k_RX8_111 ?_
  refine s_cSp (as := [_, .long (0), .long (5)]) (tb_ok aX8_taken_0 4 rfl) v_RX8_73 (R_in _ _ _) (by decide) rfl rfl (Nat.le_of_ble_eq_true rfl) ?_
  refine s_topi (bI_t (by decide)) ?_
  refine s_if_ne (tgt := 15) (tb_ok aX8_taken_0 5 rfl) (by decide) (fun c9 => ?_) (fun c9 => ?_)
  · refine s_aload_n (tb_ok aX8_taken_0 8 rfl) rfl ?_
    refine s_iload_n (tb_ok aX8_taken_0 9 rfl) rfl ?_
    refine s_cVp (as := [.int (nI j)]) (tb_ok aX8_taken_0 10 rfl) v_RX8_90 (R_isHouse h.mn _) (by decide) rfl rfl rfl rfl rfl (Nat.le_of_ble_eq_true rfl) (by decide) ?_
    refine s_topi (bI_t (vH_t hj hM5)) ?_
    refine s_if_ne (tgt := 26) (tb_ok aX8_taken_0 11 rfl) (by decide) (fun c20 => ?_) (fun c20 => ?_)
    · refine s_aload_n (tb_ok aX8_taken_0 14 rfl) rfl ?_
      refine s_getR (r := 72) (tb_ok aX8_taken_0 15 rfl) f_RX8_29 rfl rfl rfl ?_
      refine s_iload_n (tb_ok aX8_taken_0 16 rfl) rfl ?_
      refine s_ialdX (x := (4)) (tb_ok aX8_taken_0 17 rfl) rfl (by omega) (by decide) ((h.c0 hj).trans hk) ?_
      refine s_istore_n (ls' := [some (.ref 66), some (.int (nI j)), some (.int (2)), some (.int (4))]) (tb_ok aX8_taken_0 18 rfl) rfl rfl ?_
      refine s_iload_n (tb_ok aX8_taken_0 19 rfl) rfl ?_
      refine s_iconst (v := -1) (tb_ok aX8_taken_0 20 rfl) (by decide) ?_
      refine s_icmp_eq (tgt := 51) (tb_ok aX8_taken_0 21 rfl) (by decide) (fun c35 => ?_) (fun c35 => ?_)
      · exact absurd c35 (by decide)
      · refine s_iload_n (tb_ok aX8_taken_0 22 rfl) rfl ?_
        refine s_iload_n (tb_ok aX8_taken_0 23 rfl) rfl ?_
        refine s_icmp_eq (tgt := 51) (tb_ok aX8_taken_1 0 rfl) (by decide) (fun c40 => ?_) (fun c40 => ?_)
        · exact absurd c40 (by decide)
        · refine s_iload_n (tb_ok aX8_taken_1 1 rfl) rfl ?_
          refine s_cSp (as := [.int (4)]) (tb_ok aX8_taken_1 2 rfl) v_RX8_451 (R_over4) (by decide) rfl rfl (Nat.le_of_ble_eq_true rfl) ?_
          refine s_istore_n (ls' := [some (.ref 66), some (.int (nI j)), some (.int (2)), some (.int (2))]) (tb_ok aX8_taken_1 3 rfl) rfl rfl ?_
          refine s_goto (tgt := 33) (tb_ok aX8_taken_1 4 rfl) (by decide) ?_
          refine s_iload_n (tb_ok aX8_taken_0 19 rfl) rfl ?_
          refine s_iconst (v := -1) (tb_ok aX8_taken_0 20 rfl) (by decide) ?_
          refine s_icmp_eq (tgt := 51) (tb_ok aX8_taken_0 21 rfl) (by decide) (fun c35 => ?_) (fun c35 => ?_)
          · exact absurd c35 (by decide)
          · refine s_iload_n (tb_ok aX8_taken_0 22 rfl) rfl ?_
            refine s_iload_n (tb_ok aX8_taken_0 23 rfl) rfl ?_
            refine s_icmp_eq (tgt := 51) (tb_ok aX8_taken_1 0 rfl) (by decide) (fun c40 => ?_) (fun c40 => ?_)
            · refine s_iload_n (tb_ok aX8_taken_1 5 rfl) rfl ?_
              refine s_iload_n (tb_ok aX8_taken_1 6 rfl) rfl ?_
              refine s_icmp_ne (tgt := 67) (tb_ok aX8_taken_1 7 rfl) (by decide) (fun c53 => ?_) (fun c53 => ?_)
              · exact absurd c53 (by decide)
              · refine s_aload_n (tb_ok aX8_taken_1 8 rfl) rfl ?_
                refine s_getR (r := 73) (tb_ok aX8_taken_1 9 rfl) f_RX8_32 rfl rfl rfl ?_
                refine s_iconst (v := 4) (tb_ok aX8_taken_1 10 rfl) (by decide) ?_
                refine s_iload_n (tb_ok aX8_taken_1 11 rfl) rfl ?_
                refine s_imul (tb_ok aX8_taken_1 12 rfl) ?_
                refine s_topi (z := (nI (4 * j))) (nI_mul 4 j) ?_
                refine s_ialdX (x := (T j 1)) (tb_ok aX8_taken_1 13 rfl) rfl (by omega) (by decide) (h.c1 hj) ?_
                refine s_goto (tgt := 69) (tb_ok aX8_taken_1 14 rfl) (by decide) ?_
                refine s_iret (tb_ok aX8_taken_1 16 rfl) rfl ?_
                exact afZ (by rw [hk]; rfl) FrE.refl
            · exact absurd c40 (by decide)
    · exact absurd c20 (by decide)
  · exact absurd c9 (by decide)

set_option maxRecDepth 100000 in
set_option maxHeartbeats 1000000 in
theorem R_take4_3 {X : En} {L : FL} {q : Nat × Nat} {I : FI} {m : Nat} {fr fa : Nat → Int32} {M : Nat} {T : Nat → Nat → Int32} {d : Nat} {sem : Nat → Sem} (h : RSt I m fr fa M T d sem) {j : Nat} (hj : j < M) (hk : T j 0 = 4) : Ev X 60 mX8_taken (0, 0) [.ref 66, .int (nI j), .int (3)] S0 I L (R0 q) (AfZ q eB I (if isoF 3 6 (T j 0) = 1 then T j 1 else -13)) := by
  have hM5 := h.M5
  refine ev_of (by decide +kernel) rfl ?_
  show SW X _ _ _ 0 [some (.ref 66), some (.int (nI j)), some (.int (3)), none] [] S0 I L (R0 q) _
  refine s_iload_n (tb_ok aX8_taken_0 0 rfl) rfl ?_
  refine s_i2l (tb_ok aX8_taken_0 1 rfl) ?_
  refine s_lconst (v := 0) (tb_ok aX8_taken_0 2 rfl) (by decide) ?_
  refine s_ldc2 (tb_ok aX8_taken_0 3 rfl) k_RX8_111 ?_
  refine s_cSp (as := [_, .long (0), .long (5)]) (tb_ok aX8_taken_0 4 rfl) v_RX8_73 (R_in _ _ _) (by decide) rfl rfl (Nat.le_of_ble_eq_true rfl) ?_
  refine s_topi (bI_t (by decide)) ?_
  refine s_if_ne (tgt := 15) (tb_ok aX8_taken_0 5 rfl) (by decide) (fun c9 => ?_) (fun c9 => ?_)
  · refine s_aload_n (tb_ok aX8_taken_0 8 rfl) rfl ?_
    refine s_iload_n (tb_ok aX8_taken_0 9 rfl) rfl ?_
    refine s_cVp (as := [.int (nI j)]) (tb_ok aX8_taken_0 10 rfl) v_RX8_90 (R_isHouse h.mn _) (by decide) rfl rfl rfl rfl rfl (Nat.le_of_ble_eq_true rfl) (by decide) ?_
    refine s_topi (bI_t (vH_t hj hM5)) ?_
    refine s_if_ne (tgt := 26) (tb_ok aX8_taken_0 11 rfl) (by decide) (fun c20 => ?_) (fun c20 => ?_)
    · refine s_aload_n (tb_ok aX8_taken_0 14 rfl) rfl ?_
      refine s_getR (r := 72) (tb_ok aX8_taken_0 15 rfl) f_RX8_29 rfl rfl rfl ?_
      refine s_iload_n (tb_ok aX8_taken_0 16 rfl) rfl ?_
      refine s_ialdX (x := (4)) (tb_ok aX8_taken_0 17 rfl) rfl (by omega) (by decide) ((h.c0 hj).trans hk) ?_
      refine s_istore_n (ls' := [some (.ref 66), some (.int (nI j)), some (.int (3)), some (.int (4))]) (tb_ok aX8_taken_0 18 rfl) rfl rfl ?_
      refine s_iload_n (tb_ok aX8_taken_0 19 rfl) rfl ?_
      refine s_iconst (v := -1) (tb_ok aX8_taken_0 20 rfl) (by decide) ?_
      refine s_icmp_eq (tgt := 51) (tb_ok aX8_taken_0 21 rfl) (by decide) (fun c35 => ?_) (fun c35 => ?_)
      · exact absurd c35 (by decide)
      · refine s_iload_n (tb_ok aX8_taken_0 22 rfl) rfl ?_
        refine s_iload_n (tb_ok aX8_taken_0 23 rfl) rfl ?_
        refine s_icmp_eq (tgt := 51) (tb_ok aX8_taken_1 0 rfl) (by decide) (fun c40 => ?_) (fun c40 => ?_)
        · exact absurd c40 (by decide)
        · refine s_iload_n (tb_ok aX8_taken_1 1 rfl) rfl ?_
          refine s_cSp (as := [.int (4)]) (tb_ok aX8_taken_1 2 rfl) v_RX8_451 (R_over4) (by decide) rfl rfl (Nat.le_of_ble_eq_true rfl) ?_
          refine s_istore_n (ls' := [some (.ref 66), some (.int (nI j)), some (.int (3)), some (.int (2))]) (tb_ok aX8_taken_1 3 rfl) rfl rfl ?_
          refine s_goto (tgt := 33) (tb_ok aX8_taken_1 4 rfl) (by decide) ?_
          refine s_iload_n (tb_ok aX8_taken_0 19 rfl) rfl ?_
          refine s_iconst (v := -1) (tb_ok aX8_taken_0 20 rfl) (by decide) ?_
          refine s_icmp_eq (tgt := 51) (tb_ok aX8_taken_0 21 rfl) (by decide) (fun c35 => ?_) (fun c35 => ?_)
          · exact absurd c35 (by decide)
          · refine s_iload_n (tb_ok aX8_taken_0 22 rfl) rfl ?_
            refine s_iload_n (tb_ok aX8_taken_0 23 rfl) rfl ?_
            refine s_icmp_eq (tgt := 51) (tb_ok aX8_taken_1 0 rfl) (by decide) (fun c40 => ?_) (fun c40 => ?_)
            · exact absurd c40 (by decide)
            · refine s_iload_n (tb_ok aX8_taken_1 1 rfl) rfl ?_
              refine s_cSp (as := [.int (2)]) (tb_ok aX8_taken_1 2 rfl) v_RX8_451 (R_over2) (by decide) rfl rfl (Nat.le_of_ble_eq_true rfl) ?_
              refine s_istore_n (ls' := [some (.ref 66), some (.int (nI j)), some (.int (3)), some (.int (0))]) (tb_ok aX8_taken_1 3 rfl) rfl rfl ?_
              refine s_goto (tgt := 33) (tb_ok aX8_taken_1 4 rfl) (by decide) ?_
              refine s_iload_n (tb_ok aX8_taken_0 19 rfl) rfl ?_
              refine s_iconst (v := -1) (tb_ok aX8_taken_0 20 rfl) (by decide) ?_
              refine s_icmp_eq (tgt := 51) (tb_ok aX8_taken_0 21 rfl) (by decide) (fun c35 => ?_) (fun c35 => ?_)
              · exact absurd c35 (by decide)
              · refine s_iload_n (tb_ok aX8_taken_0 22 rfl) rfl ?_
                refine s_iload_n (tb_ok aX8_taken_0 23 rfl) rfl ?_
                refine s_icmp_eq (tgt := 51) (tb_ok aX8_taken_1 0 rfl) (by decide) (fun c40 => ?_) (fun c40 => ?_)
                · exact absurd c40 (by decide)
                · refine s_iload_n (tb_ok aX8_taken_1 1 rfl) rfl ?_
                  refine s_cSp (as := [.int (0)]) (tb_ok aX8_taken_1 2 rfl) v_RX8_451 (R_over0) (by decide) rfl rfl (Nat.le_of_ble_eq_true rfl) ?_
                  refine s_istore_n (ls' := [some (.ref 66), some (.int (nI j)), some (.int (3)), some (.int (-1))]) (tb_ok aX8_taken_1 3 rfl) rfl rfl ?_
                  refine s_goto (tgt := 33) (tb_ok aX8_taken_1 4 rfl) (by decide) ?_
                  refine s_iload_n (tb_ok aX8_taken_0 19 rfl) rfl ?_
                  refine s_iconst (v := -1) (tb_ok aX8_taken_0 20 rfl) (by decide) ?_
                  refine s_icmp_eq (tgt := 51) (tb_ok aX8_taken_0 21 rfl) (by decide) (fun c35 => ?_) (fun c35 => ?_)
                  · refine s_iload_n (tb_ok aX8_taken_1 5 rfl) rfl ?_
                    refine s_iload_n (tb_ok aX8_taken_1 6 rfl) rfl ?_
                    refine s_icmp_ne (tgt := 67) (tb_ok aX8_taken_1 7 rfl) (by decide) (fun c53 => ?_) (fun c53 => ?_)
                    · refine s_bipush (v := -13) (tb_ok aX8_taken_1 15 rfl) (by decide) ?_
                      refine s_iret (tb_ok aX8_taken_1 16 rfl) rfl ?_
                      exact afZ (by rw [hk]; rfl) FrE.refl
                    · exact absurd c53 (by decide)
                  · exact absurd c35 (by decide)
    · exact absurd c20 (by decide)
  · exact absurd c9 (by decide)

set_option maxRecDepth 100000 in
set_option maxHeartbeats 1000000 in
theorem R_take4_4 {X : En} {L : FL} {q : Nat × Nat} {I : FI} {m : Nat} {fr fa : Nat → Int32} {M : Nat} {T : Nat → Nat → Int32} {d : Nat} {sem : Nat → Sem} (h : RSt I m fr fa M T d sem) {j : Nat} (hj : j < M) (hk : T j 0 = 4) : Ev X 60 mX8_taken (0, 0) [.ref 66, .int (nI j), .int (4)] S0 I L (R0 q) (AfZ q eB I (if isoF 4 6 (T j 0) = 1 then T j 1 else -13)) := by
  have hM5 := h.M5
  refine ev_of (by decide +kernel) rfl ?_
  show SW X _ _ _ 0 [some (.ref 66), some (.int (nI j)), some (.int (4)), none] [] S0 I L (R0 q) _
  refine s_iload_n (tb_ok aX8_taken_0 0 rfl) rfl ?_
  refine s_i2l (tb_ok aX8_taken_0 1 rfl) ?_
  refine s_lconst (v := 0) (tb_ok aX8_taken_0 2 rfl) (by decide) ?_
  refine s_ldc2 (tb_ok aX8_taken_0 3 rfl) k_RX8_111 ?_
  refine s_cSp (as := [_, .long (0), .long (5)]) (tb_ok aX8_taken_0 4 rfl) v_RX8_73 (R_in _ _ _) (by decide) rfl rfl (Nat.le_of_ble_eq_true rfl) ?_
  refine s_topi (bI_t (by decide)) ?_
  refine s_if_ne (tgt := 15) (tb_ok aX8_taken_0 5 rfl) (by decide) (fun c9 => ?_) (fun c9 => ?_)
  · refine s_aload_n (tb_ok aX8_taken_0 8 rfl) rfl ?_
    refine s_iload_n (tb_ok aX8_taken_0 9 rfl) rfl ?_
    refine s_cVp (as := [.int (nI j)]) (tb_ok aX8_taken_0 10 rfl) v_RX8_90 (R_isHouse h.mn _) (by decide) rfl rfl rfl rfl rfl (Nat.le_of_ble_eq_true rfl) (by decide) ?_
    refine s_topi (bI_t (vH_t hj hM5)) ?_
    refine s_if_ne (tgt := 26) (tb_ok aX8_taken_0 11 rfl) (by decide) (fun c20 => ?_) (fun c20 => ?_)
    · refine s_aload_n (tb_ok aX8_taken_0 14 rfl) rfl ?_
      refine s_getR (r := 72) (tb_ok aX8_taken_0 15 rfl) f_RX8_29 rfl rfl rfl ?_
      refine s_iload_n (tb_ok aX8_taken_0 16 rfl) rfl ?_
      refine s_ialdX (x := (4)) (tb_ok aX8_taken_0 17 rfl) rfl (by omega) (by decide) ((h.c0 hj).trans hk) ?_
      refine s_istore_n (ls' := [some (.ref 66), some (.int (nI j)), some (.int (4)), some (.int (4))]) (tb_ok aX8_taken_0 18 rfl) rfl rfl ?_
      refine s_iload_n (tb_ok aX8_taken_0 19 rfl) rfl ?_
      refine s_iconst (v := -1) (tb_ok aX8_taken_0 20 rfl) (by decide) ?_
      refine s_icmp_eq (tgt := 51) (tb_ok aX8_taken_0 21 rfl) (by decide) (fun c35 => ?_) (fun c35 => ?_)
      · exact absurd c35 (by decide)
      · refine s_iload_n (tb_ok aX8_taken_0 22 rfl) rfl ?_
        refine s_iload_n (tb_ok aX8_taken_0 23 rfl) rfl ?_
        refine s_icmp_eq (tgt := 51) (tb_ok aX8_taken_1 0 rfl) (by decide) (fun c40 => ?_) (fun c40 => ?_)
        · refine s_iload_n (tb_ok aX8_taken_1 5 rfl) rfl ?_
          refine s_iload_n (tb_ok aX8_taken_1 6 rfl) rfl ?_
          refine s_icmp_ne (tgt := 67) (tb_ok aX8_taken_1 7 rfl) (by decide) (fun c53 => ?_) (fun c53 => ?_)
          · exact absurd c53 (by decide)
          · refine s_aload_n (tb_ok aX8_taken_1 8 rfl) rfl ?_
            refine s_getR (r := 73) (tb_ok aX8_taken_1 9 rfl) f_RX8_32 rfl rfl rfl ?_
            refine s_iconst (v := 4) (tb_ok aX8_taken_1 10 rfl) (by decide) ?_
            refine s_iload_n (tb_ok aX8_taken_1 11 rfl) rfl ?_
            refine s_imul (tb_ok aX8_taken_1 12 rfl) ?_
            refine s_topi (z := (nI (4 * j))) (nI_mul 4 j) ?_
            refine s_ialdX (x := (T j 1)) (tb_ok aX8_taken_1 13 rfl) rfl (by omega) (by decide) (h.c1 hj) ?_
            refine s_goto (tgt := 69) (tb_ok aX8_taken_1 14 rfl) (by decide) ?_
            refine s_iret (tb_ok aX8_taken_1 16 rfl) rfl ?_
            exact afZ (by rw [hk]; rfl) FrE.refl
        · exact absurd c40 (by decide)
    · exact absurd c20 (by decide)
  · exact absurd c9 (by decide)

set_option maxRecDepth 100000 in
set_option maxHeartbeats 1000000 in
theorem R_take4_5 {X : En} {L : FL} {q : Nat × Nat} {I : FI} {m : Nat} {fr fa : Nat → Int32} {M : Nat} {T : Nat → Nat → Int32} {d : Nat} {sem : Nat → Sem} (h : RSt I m fr fa M T d sem) {j : Nat} (hj : j < M) (hk : T j 0 = 4) : Ev X 60 mX8_taken (0, 0) [.ref 66, .int (nI j), .int (5)] S0 I L (R0 q) (AfZ q eB I (if isoF 5 6 (T j 0) = 1 then T j 1 else -13)) := by
  have hM5 := h.M5
  refine ev_of (by decide +kernel) rfl ?_
  show SW X _ _ _ 0 [some (.ref 66), some (.int (nI j)), some (.int (5)), none] [] S0 I L (R0 q) _
  refine s_iload_n (tb_ok aX8_taken_0 0 rfl) rfl ?_
  refine s_i2l (tb_ok aX8_taken_0 1 rfl) ?_
  refine s_lconst (v := 0) (tb_ok aX8_taken_0 2 rfl) (by decide) ?_
  refine s_ldc2 (tb_ok aX8_taken_0 3 rfl) k_RX8_111 ?_
  refine s_cSp (as := [_, .long (0), .long (5)]) (tb_ok aX8_taken_0 4 rfl) v_RX8_73 (R_in _ _ _) (by decide) rfl rfl (Nat.le_of_ble_eq_true rfl) ?_
  refine s_topi (bI_t (by decide)) ?_
  refine s_if_ne (tgt := 15) (tb_ok aX8_taken_0 5 rfl) (by decide) (fun c9 => ?_) (fun c9 => ?_)
  · refine s_aload_n (tb_ok aX8_taken_0 8 rfl) rfl ?_
    refine s_iload_n (tb_ok aX8_taken_0 9 rfl) rfl ?_
    refine s_cVp (as := [.int (nI j)]) (tb_ok aX8_taken_0 10 rfl) v_RX8_90 (R_isHouse h.mn _) (by decide) rfl rfl rfl rfl rfl (Nat.le_of_ble_eq_true rfl) (by decide) ?_
    refine s_topi (bI_t (vH_t hj hM5)) ?_
    refine s_if_ne (tgt := 26) (tb_ok aX8_taken_0 11 rfl) (by decide) (fun c20 => ?_) (fun c20 => ?_)
    · refine s_aload_n (tb_ok aX8_taken_0 14 rfl) rfl ?_
      refine s_getR (r := 72) (tb_ok aX8_taken_0 15 rfl) f_RX8_29 rfl rfl rfl ?_
      refine s_iload_n (tb_ok aX8_taken_0 16 rfl) rfl ?_
      refine s_ialdX (x := (4)) (tb_ok aX8_taken_0 17 rfl) rfl (by omega) (by decide) ((h.c0 hj).trans hk) ?_
      refine s_istore_n (ls' := [some (.ref 66), some (.int (nI j)), some (.int (5)), some (.int (4))]) (tb_ok aX8_taken_0 18 rfl) rfl rfl ?_
      refine s_iload_n (tb_ok aX8_taken_0 19 rfl) rfl ?_
      refine s_iconst (v := -1) (tb_ok aX8_taken_0 20 rfl) (by decide) ?_
      refine s_icmp_eq (tgt := 51) (tb_ok aX8_taken_0 21 rfl) (by decide) (fun c35 => ?_) (fun c35 => ?_)
      · exact absurd c35 (by decide)
      · refine s_iload_n (tb_ok aX8_taken_0 22 rfl) rfl ?_
        refine s_iload_n (tb_ok aX8_taken_0 23 rfl) rfl ?_
        refine s_icmp_eq (tgt := 51) (tb_ok aX8_taken_1 0 rfl) (by decide) (fun c40 => ?_) (fun c40 => ?_)
        · exact absurd c40 (by decide)
        · refine s_iload_n (tb_ok aX8_taken_1 1 rfl) rfl ?_
          refine s_cSp (as := [.int (4)]) (tb_ok aX8_taken_1 2 rfl) v_RX8_451 (R_over4) (by decide) rfl rfl (Nat.le_of_ble_eq_true rfl) ?_
          refine s_istore_n (ls' := [some (.ref 66), some (.int (nI j)), some (.int (5)), some (.int (2))]) (tb_ok aX8_taken_1 3 rfl) rfl rfl ?_
          refine s_goto (tgt := 33) (tb_ok aX8_taken_1 4 rfl) (by decide) ?_
          refine s_iload_n (tb_ok aX8_taken_0 19 rfl) rfl ?_
          refine s_iconst (v := -1) (tb_ok aX8_taken_0 20 rfl) (by decide) ?_
          refine s_icmp_eq (tgt := 51) (tb_ok aX8_taken_0 21 rfl) (by decide) (fun c35 => ?_) (fun c35 => ?_)
          · exact absurd c35 (by decide)
          · refine s_iload_n (tb_ok aX8_taken_0 22 rfl) rfl ?_
            refine s_iload_n (tb_ok aX8_taken_0 23 rfl) rfl ?_
            refine s_icmp_eq (tgt := 51) (tb_ok aX8_taken_1 0 rfl) (by decide) (fun c40 => ?_) (fun c40 => ?_)
            · exact absurd c40 (by decide)
            · refine s_iload_n (tb_ok aX8_taken_1 1 rfl) rfl ?_
              refine s_cSp (as := [.int (2)]) (tb_ok aX8_taken_1 2 rfl) v_RX8_451 (R_over2) (by decide) rfl rfl (Nat.le_of_ble_eq_true rfl) ?_
              refine s_istore_n (ls' := [some (.ref 66), some (.int (nI j)), some (.int (5)), some (.int (0))]) (tb_ok aX8_taken_1 3 rfl) rfl rfl ?_
              refine s_goto (tgt := 33) (tb_ok aX8_taken_1 4 rfl) (by decide) ?_
              refine s_iload_n (tb_ok aX8_taken_0 19 rfl) rfl ?_
              refine s_iconst (v := -1) (tb_ok aX8_taken_0 20 rfl) (by decide) ?_
              refine s_icmp_eq (tgt := 51) (tb_ok aX8_taken_0 21 rfl) (by decide) (fun c35 => ?_) (fun c35 => ?_)
              · exact absurd c35 (by decide)
              · refine s_iload_n (tb_ok aX8_taken_0 22 rfl) rfl ?_
                refine s_iload_n (tb_ok aX8_taken_0 23 rfl) rfl ?_
                refine s_icmp_eq (tgt := 51) (tb_ok aX8_taken_1 0 rfl) (by decide) (fun c40 => ?_) (fun c40 => ?_)
                · exact absurd c40 (by decide)
                · refine s_iload_n (tb_ok aX8_taken_1 1 rfl) rfl ?_
                  refine s_cSp (as := [.int (0)]) (tb_ok aX8_taken_1 2 rfl) v_RX8_451 (R_over0) (by decide) rfl rfl (Nat.le_of_ble_eq_true rfl) ?_
                  refine s_istore_n (ls' := [some (.ref 66), some (.int (nI j)), some (.int (5)), some (.int (-1))]) (tb_ok aX8_taken_1 3 rfl) rfl rfl ?_
                  refine s_goto (tgt := 33) (tb_ok aX8_taken_1 4 rfl) (by decide) ?_
                  refine s_iload_n (tb_ok aX8_taken_0 19 rfl) rfl ?_
                  refine s_iconst (v := -1) (tb_ok aX8_taken_0 20 rfl) (by decide) ?_
                  refine s_icmp_eq (tgt := 51) (tb_ok aX8_taken_0 21 rfl) (by decide) (fun c35 => ?_) (fun c35 => ?_)
                  · refine s_iload_n (tb_ok aX8_taken_1 5 rfl) rfl ?_
                    refine s_iload_n (tb_ok aX8_taken_1 6 rfl) rfl ?_
                    refine s_icmp_ne (tgt := 67) (tb_ok aX8_taken_1 7 rfl) (by decide) (fun c53 => ?_) (fun c53 => ?_)
                    · refine s_bipush (v := -13) (tb_ok aX8_taken_1 15 rfl) (by decide) ?_
                      refine s_iret (tb_ok aX8_taken_1 16 rfl) rfl ?_
                      exact afZ (by rw [hk]; rfl) FrE.refl
                    · exact absurd c53 (by decide)
                  · exact absurd c35 (by decide)
    · exact absurd c20 (by decide)
  · exact absurd c9 (by decide)

theorem R_takk4 {X : En} {L : FL} {q : Nat × Nat} {I : FI} {m : Nat} {fr fa : Nat → Int32} {M : Nat} {T : Nat → Nat → Int32} {d : Nat} {sem : Nat → Sem} (h : RSt I m fr fa M T d sem) {j k : Nat} (hj : j < M) (hk6 : k < 6) (hk : T j 0 = 4) : Ev X 60 mX8_taken (0, 0) [.ref 66, .int (nI j), .int (nI k)] S0 I L (R0 q) (AfZ q eB I (if isoF (nI k) 6 (T j 0) = 1 then T j 1 else -13)) := by
  have e : k = 0 ∨ k = 1 ∨ k = 2 ∨ k = 3 ∨ k = 4 ∨ k = 5 := by omega
  rcases e with e | e | e | e | e | e <;> subst e
  · exact R_take4_0 h hj hk
  · exact R_take4_1 h hj hk
  · exact R_take4_2 h hj hk
  · exact R_take4_3 h hj hk
  · exact R_take4_4 h hj hk
  · exact R_take4_5 h hj hk
set_option maxRecDepth 100000 in
set_option maxHeartbeats 1000000 in
theorem R_take5_0 {X : En} {L : FL} {q : Nat × Nat} {I : FI} {m : Nat} {fr fa : Nat → Int32} {M : Nat} {T : Nat → Nat → Int32} {d : Nat} {sem : Nat → Sem} (h : RSt I m fr fa M T d sem) {j : Nat} (hj : j < M) (hk : T j 0 = 5) : Ev X 60 mX8_taken (0, 0) [.ref 66, .int (nI j), .int (0)] S0 I L (R0 q) (AfZ q eB I (if isoF 0 6 (T j 0) = 1 then T j 1 else -13)) := by
  have hM5 := h.M5
  refine ev_of (by decide +kernel) rfl ?_
  show SW X _ _ _ 0 [some (.ref 66), some (.int (nI j)), some (.int (0)), none] [] S0 I L (R0 q) _
  refine s_iload_n (tb_ok aX8_taken_0 0 rfl) rfl ?_
  refine s_i2l (tb_ok aX8_taken_0 1 rfl) ?_
  refine s_lconst (v := 0) (tb_ok aX8_taken_0 2 rfl) (by decide) ?_
  refine s_ldc2 (tb_ok aX8_taken_0 3 rfl) k_RX8_111 ?_
  refine s_cSp (as := [_, .long (0), .long (5)]) (tb_ok aX8_taken_0 4 rfl) v_RX8_73 (R_in _ _ _) (by decide) rfl rfl (Nat.le_of_ble_eq_true rfl) ?_
  refine s_topi (bI_t (by decide)) ?_
  refine s_if_ne (tgt := 15) (tb_ok aX8_taken_0 5 rfl) (by decide) (fun c9 => ?_) (fun c9 => ?_)
  · refine s_aload_n (tb_ok aX8_taken_0 8 rfl) rfl ?_
    refine s_iload_n (tb_ok aX8_taken_0 9 rfl) rfl ?_
    refine s_cVp (as := [.int (nI j)]) (tb_ok aX8_taken_0 10 rfl) v_RX8_90 (R_isHouse h.mn _) (by decide) rfl rfl rfl rfl rfl (Nat.le_of_ble_eq_true rfl) (by decide) ?_
    refine s_topi (bI_t (vH_t hj hM5)) ?_
    refine s_if_ne (tgt := 26) (tb_ok aX8_taken_0 11 rfl) (by decide) (fun c20 => ?_) (fun c20 => ?_)
    · refine s_aload_n (tb_ok aX8_taken_0 14 rfl) rfl ?_
      refine s_getR (r := 72) (tb_ok aX8_taken_0 15 rfl) f_RX8_29 rfl rfl rfl ?_
      refine s_iload_n (tb_ok aX8_taken_0 16 rfl) rfl ?_
      refine s_ialdX (x := (5)) (tb_ok aX8_taken_0 17 rfl) rfl (by omega) (by decide) ((h.c0 hj).trans hk) ?_
      refine s_istore_n (ls' := [some (.ref 66), some (.int (nI j)), some (.int (0)), some (.int (5))]) (tb_ok aX8_taken_0 18 rfl) rfl rfl ?_
      refine s_iload_n (tb_ok aX8_taken_0 19 rfl) rfl ?_
      refine s_iconst (v := -1) (tb_ok aX8_taken_0 20 rfl) (by decide) ?_
      refine s_icmp_eq (tgt := 51) (tb_ok aX8_taken_0 21 rfl) (by decide) (fun c35 => ?_) (fun c35 => ?_)
      · exact absurd c35 (by decide)
      · refine s_iload_n (tb_ok aX8_taken_0 22 rfl) rfl ?_
        refine s_iload_n (tb_ok aX8_taken_0 23 rfl) rfl ?_
        refine s_icmp_eq (tgt := 51) (tb_ok aX8_taken_1 0 rfl) (by decide) (fun c40 => ?_) (fun c40 => ?_)
        · exact absurd c40 (by decide)
        · refine s_iload_n (tb_ok aX8_taken_1 1 rfl) rfl ?_
          refine s_cSp (as := [.int (5)]) (tb_ok aX8_taken_1 2 rfl) v_RX8_451 (R_over5) (by decide) rfl rfl (Nat.le_of_ble_eq_true rfl) ?_
          refine s_istore_n (ls' := [some (.ref 66), some (.int (nI j)), some (.int (0)), some (.int (0))]) (tb_ok aX8_taken_1 3 rfl) rfl rfl ?_
          refine s_goto (tgt := 33) (tb_ok aX8_taken_1 4 rfl) (by decide) ?_
          refine s_iload_n (tb_ok aX8_taken_0 19 rfl) rfl ?_
          refine s_iconst (v := -1) (tb_ok aX8_taken_0 20 rfl) (by decide) ?_
          refine s_icmp_eq (tgt := 51) (tb_ok aX8_taken_0 21 rfl) (by decide) (fun c35 => ?_) (fun c35 => ?_)
          · exact absurd c35 (by decide)
          · refine s_iload_n (tb_ok aX8_taken_0 22 rfl) rfl ?_
            refine s_iload_n (tb_ok aX8_taken_0 23 rfl) rfl ?_
            refine s_icmp_eq (tgt := 51) (tb_ok aX8_taken_1 0 rfl) (by decide) (fun c40 => ?_) (fun c40 => ?_)
            · refine s_iload_n (tb_ok aX8_taken_1 5 rfl) rfl ?_
              refine s_iload_n (tb_ok aX8_taken_1 6 rfl) rfl ?_
              refine s_icmp_ne (tgt := 67) (tb_ok aX8_taken_1 7 rfl) (by decide) (fun c53 => ?_) (fun c53 => ?_)
              · exact absurd c53 (by decide)
              · refine s_aload_n (tb_ok aX8_taken_1 8 rfl) rfl ?_
                refine s_getR (r := 73) (tb_ok aX8_taken_1 9 rfl) f_RX8_32 rfl rfl rfl ?_
                refine s_iconst (v := 4) (tb_ok aX8_taken_1 10 rfl) (by decide) ?_
                refine s_iload_n (tb_ok aX8_taken_1 11 rfl) rfl ?_
                refine s_imul (tb_ok aX8_taken_1 12 rfl) ?_
                refine s_topi (z := (nI (4 * j))) (nI_mul 4 j) ?_
                refine s_ialdX (x := (T j 1)) (tb_ok aX8_taken_1 13 rfl) rfl (by omega) (by decide) (h.c1 hj) ?_
                refine s_goto (tgt := 69) (tb_ok aX8_taken_1 14 rfl) (by decide) ?_
                refine s_iret (tb_ok aX8_taken_1 16 rfl) rfl ?_
                exact afZ (by rw [hk]; rfl) FrE.refl
            · exact absurd c40 (by decide)
    · exact absurd c20 (by decide)
  · exact absurd c9 (by decide)

set_option maxRecDepth 100000 in
set_option maxHeartbeats 1000000 in
theorem R_take5_1 {X : En} {L : FL} {q : Nat × Nat} {I : FI} {m : Nat} {fr fa : Nat → Int32} {M : Nat} {T : Nat → Nat → Int32} {d : Nat} {sem : Nat → Sem} (h : RSt I m fr fa M T d sem) {j : Nat} (hj : j < M) (hk : T j 0 = 5) : Ev X 60 mX8_taken (0, 0) [.ref 66, .int (nI j), .int (1)] S0 I L (R0 q) (AfZ q eB I (if isoF 1 6 (T j 0) = 1 then T j 1 else -13)) := by
  have hM5 := h.M5
  refine ev_of (by decide +kernel) rfl ?_
  show SW X _ _ _ 0 [some (.ref 66), some (.int (nI j)), some (.int (1)), none] [] S0 I L (R0 q) _
  refine s_iload_n (tb_ok aX8_taken_0 0 rfl) rfl ?_
  refine s_i2l (tb_ok aX8_taken_0 1 rfl) ?_
  refine s_lconst (v := 0) (tb_ok aX8_taken_0 2 rfl) (by decide) ?_
  refine s_ldc2 (tb_ok aX8_taken_0 3 rfl) k_RX8_111 ?_
  refine s_cSp (as := [_, .long (0), .long (5)]) (tb_ok aX8_taken_0 4 rfl) v_RX8_73 (R_in _ _ _) (by decide) rfl rfl (Nat.le_of_ble_eq_true rfl) ?_
  refine s_topi (bI_t (by decide)) ?_
  refine s_if_ne (tgt := 15) (tb_ok aX8_taken_0 5 rfl) (by decide) (fun c9 => ?_) (fun c9 => ?_)
  · refine s_aload_n (tb_ok aX8_taken_0 8 rfl) rfl ?_
    refine s_iload_n (tb_ok aX8_taken_0 9 rfl) rfl ?_
    refine s_cVp (as := [.int (nI j)]) (tb_ok aX8_taken_0 10 rfl) v_RX8_90 (R_isHouse h.mn _) (by decide) rfl rfl rfl rfl rfl (Nat.le_of_ble_eq_true rfl) (by decide) ?_
    refine s_topi (bI_t (vH_t hj hM5)) ?_
    refine s_if_ne (tgt := 26) (tb_ok aX8_taken_0 11 rfl) (by decide) (fun c20 => ?_) (fun c20 => ?_)
    · refine s_aload_n (tb_ok aX8_taken_0 14 rfl) rfl ?_
      refine s_getR (r := 72) (tb_ok aX8_taken_0 15 rfl) f_RX8_29 rfl rfl rfl ?_
      refine s_iload_n (tb_ok aX8_taken_0 16 rfl) rfl ?_
      refine s_ialdX (x := (5)) (tb_ok aX8_taken_0 17 rfl) rfl (by omega) (by decide) ((h.c0 hj).trans hk) ?_
      refine s_istore_n (ls' := [some (.ref 66), some (.int (nI j)), some (.int (1)), some (.int (5))]) (tb_ok aX8_taken_0 18 rfl) rfl rfl ?_
      refine s_iload_n (tb_ok aX8_taken_0 19 rfl) rfl ?_
      refine s_iconst (v := -1) (tb_ok aX8_taken_0 20 rfl) (by decide) ?_
      refine s_icmp_eq (tgt := 51) (tb_ok aX8_taken_0 21 rfl) (by decide) (fun c35 => ?_) (fun c35 => ?_)
      · exact absurd c35 (by decide)
      · refine s_iload_n (tb_ok aX8_taken_0 22 rfl) rfl ?_
        refine s_iload_n (tb_ok aX8_taken_0 23 rfl) rfl ?_
        refine s_icmp_eq (tgt := 51) (tb_ok aX8_taken_1 0 rfl) (by decide) (fun c40 => ?_) (fun c40 => ?_)
        · exact absurd c40 (by decide)
        · refine s_iload_n (tb_ok aX8_taken_1 1 rfl) rfl ?_
          refine s_cSp (as := [.int (5)]) (tb_ok aX8_taken_1 2 rfl) v_RX8_451 (R_over5) (by decide) rfl rfl (Nat.le_of_ble_eq_true rfl) ?_
          refine s_istore_n (ls' := [some (.ref 66), some (.int (nI j)), some (.int (1)), some (.int (0))]) (tb_ok aX8_taken_1 3 rfl) rfl rfl ?_
          refine s_goto (tgt := 33) (tb_ok aX8_taken_1 4 rfl) (by decide) ?_
          refine s_iload_n (tb_ok aX8_taken_0 19 rfl) rfl ?_
          refine s_iconst (v := -1) (tb_ok aX8_taken_0 20 rfl) (by decide) ?_
          refine s_icmp_eq (tgt := 51) (tb_ok aX8_taken_0 21 rfl) (by decide) (fun c35 => ?_) (fun c35 => ?_)
          · exact absurd c35 (by decide)
          · refine s_iload_n (tb_ok aX8_taken_0 22 rfl) rfl ?_
            refine s_iload_n (tb_ok aX8_taken_0 23 rfl) rfl ?_
            refine s_icmp_eq (tgt := 51) (tb_ok aX8_taken_1 0 rfl) (by decide) (fun c40 => ?_) (fun c40 => ?_)
            · exact absurd c40 (by decide)
            · refine s_iload_n (tb_ok aX8_taken_1 1 rfl) rfl ?_
              refine s_cSp (as := [.int (0)]) (tb_ok aX8_taken_1 2 rfl) v_RX8_451 (R_over0) (by decide) rfl rfl (Nat.le_of_ble_eq_true rfl) ?_
              refine s_istore_n (ls' := [some (.ref 66), some (.int (nI j)), some (.int (1)), some (.int (-1))]) (tb_ok aX8_taken_1 3 rfl) rfl rfl ?_
              refine s_goto (tgt := 33) (tb_ok aX8_taken_1 4 rfl) (by decide) ?_
              refine s_iload_n (tb_ok aX8_taken_0 19 rfl) rfl ?_
              refine s_iconst (v := -1) (tb_ok aX8_taken_0 20 rfl) (by decide) ?_
              refine s_icmp_eq (tgt := 51) (tb_ok aX8_taken_0 21 rfl) (by decide) (fun c35 => ?_) (fun c35 => ?_)
              · refine s_iload_n (tb_ok aX8_taken_1 5 rfl) rfl ?_
                refine s_iload_n (tb_ok aX8_taken_1 6 rfl) rfl ?_
                refine s_icmp_ne (tgt := 67) (tb_ok aX8_taken_1 7 rfl) (by decide) (fun c53 => ?_) (fun c53 => ?_)
                · refine s_bipush (v := -13) (tb_ok aX8_taken_1 15 rfl) (by decide) ?_
                  refine s_iret (tb_ok aX8_taken_1 16 rfl) rfl ?_
                  exact afZ (by rw [hk]; rfl) FrE.refl
                · exact absurd c53 (by decide)
              · exact absurd c35 (by decide)
    · exact absurd c20 (by decide)
  · exact absurd c9 (by decide)

set_option maxRecDepth 100000 in
set_option maxHeartbeats 1000000 in
theorem R_take5_2 {X : En} {L : FL} {q : Nat × Nat} {I : FI} {m : Nat} {fr fa : Nat → Int32} {M : Nat} {T : Nat → Nat → Int32} {d : Nat} {sem : Nat → Sem} (h : RSt I m fr fa M T d sem) {j : Nat} (hj : j < M) (hk : T j 0 = 5) : Ev X 60 mX8_taken (0, 0) [.ref 66, .int (nI j), .int (2)] S0 I L (R0 q) (AfZ q eB I (if isoF 2 6 (T j 0) = 1 then T j 1 else -13)) := by
  have hM5 := h.M5
  refine ev_of (by decide +kernel) rfl ?_
  show SW X _ _ _ 0 [some (.ref 66), some (.int (nI j)), some (.int (2)), none] [] S0 I L (R0 q) _
  refine s_iload_n (tb_ok aX8_taken_0 0 rfl) rfl ?_
  refine s_i2l (tb_ok aX8_taken_0 1 rfl) ?_
  refine s_lconst (v := 0) (tb_ok aX8_taken_0 2 rfl) (by decide) ?_
  refine s_ldc2 (tb_ok aX8_taken_0 3 rfl) k_RX8_111 ?_
  refine s_cSp (as := [_, .long (0), .long (5)]) (tb_ok aX8_taken_0 4 rfl) v_RX8_73 (R_in _ _ _) (by decide) rfl rfl (Nat.le_of_ble_eq_true rfl) ?_
  refine s_topi (bI_t (by decide)) ?_
  refine s_if_ne (tgt := 15) (tb_ok aX8_taken_0 5 rfl) (by decide) (fun c9 => ?_) (fun c9 => ?_)
  · refine s_aload_n (tb_ok aX8_taken_0 8 rfl) rfl ?_
    refine s_iload_n (tb_ok aX8_taken_0 9 rfl) rfl ?_
    refine s_cVp (as := [.int (nI j)]) (tb_ok aX8_taken_0 10 rfl) v_RX8_90 (R_isHouse h.mn _) (by decide) rfl rfl rfl rfl rfl (Nat.le_of_ble_eq_true rfl) (by decide) ?_
    refine s_topi (bI_t (vH_t hj hM5)) ?_
    refine s_if_ne (tgt := 26) (tb_ok aX8_taken_0 11 rfl) (by decide) (fun c20 => ?_) (fun c20 => ?_)
    · refine s_aload_n (tb_ok aX8_taken_0 14 rfl) rfl ?_
      refine s_getR (r := 72) (tb_ok aX8_taken_0 15 rfl) f_RX8_29 rfl rfl rfl ?_
      refine s_iload_n (tb_ok aX8_taken_0 16 rfl) rfl ?_
      refine s_ialdX (x := (5)) (tb_ok aX8_taken_0 17 rfl) rfl (by omega) (by decide) ((h.c0 hj).trans hk) ?_
      refine s_istore_n (ls' := [some (.ref 66), some (.int (nI j)), some (.int (2)), some (.int (5))]) (tb_ok aX8_taken_0 18 rfl) rfl rfl ?_
      refine s_iload_n (tb_ok aX8_taken_0 19 rfl) rfl ?_
      refine s_iconst (v := -1) (tb_ok aX8_taken_0 20 rfl) (by decide) ?_
      refine s_icmp_eq (tgt := 51) (tb_ok aX8_taken_0 21 rfl) (by decide) (fun c35 => ?_) (fun c35 => ?_)
      · exact absurd c35 (by decide)
      · refine s_iload_n (tb_ok aX8_taken_0 22 rfl) rfl ?_
        refine s_iload_n (tb_ok aX8_taken_0 23 rfl) rfl ?_
        refine s_icmp_eq (tgt := 51) (tb_ok aX8_taken_1 0 rfl) (by decide) (fun c40 => ?_) (fun c40 => ?_)
        · exact absurd c40 (by decide)
        · refine s_iload_n (tb_ok aX8_taken_1 1 rfl) rfl ?_
          refine s_cSp (as := [.int (5)]) (tb_ok aX8_taken_1 2 rfl) v_RX8_451 (R_over5) (by decide) rfl rfl (Nat.le_of_ble_eq_true rfl) ?_
          refine s_istore_n (ls' := [some (.ref 66), some (.int (nI j)), some (.int (2)), some (.int (0))]) (tb_ok aX8_taken_1 3 rfl) rfl rfl ?_
          refine s_goto (tgt := 33) (tb_ok aX8_taken_1 4 rfl) (by decide) ?_
          refine s_iload_n (tb_ok aX8_taken_0 19 rfl) rfl ?_
          refine s_iconst (v := -1) (tb_ok aX8_taken_0 20 rfl) (by decide) ?_
          refine s_icmp_eq (tgt := 51) (tb_ok aX8_taken_0 21 rfl) (by decide) (fun c35 => ?_) (fun c35 => ?_)
          · exact absurd c35 (by decide)
          · refine s_iload_n (tb_ok aX8_taken_0 22 rfl) rfl ?_
            refine s_iload_n (tb_ok aX8_taken_0 23 rfl) rfl ?_
            refine s_icmp_eq (tgt := 51) (tb_ok aX8_taken_1 0 rfl) (by decide) (fun c40 => ?_) (fun c40 => ?_)
            · exact absurd c40 (by decide)
            · refine s_iload_n (tb_ok aX8_taken_1 1 rfl) rfl ?_
              refine s_cSp (as := [.int (0)]) (tb_ok aX8_taken_1 2 rfl) v_RX8_451 (R_over0) (by decide) rfl rfl (Nat.le_of_ble_eq_true rfl) ?_
              refine s_istore_n (ls' := [some (.ref 66), some (.int (nI j)), some (.int (2)), some (.int (-1))]) (tb_ok aX8_taken_1 3 rfl) rfl rfl ?_
              refine s_goto (tgt := 33) (tb_ok aX8_taken_1 4 rfl) (by decide) ?_
              refine s_iload_n (tb_ok aX8_taken_0 19 rfl) rfl ?_
              refine s_iconst (v := -1) (tb_ok aX8_taken_0 20 rfl) (by decide) ?_
              refine s_icmp_eq (tgt := 51) (tb_ok aX8_taken_0 21 rfl) (by decide) (fun c35 => ?_) (fun c35 => ?_)
              · refine s_iload_n (tb_ok aX8_taken_1 5 rfl) rfl ?_
                refine s_iload_n (tb_ok aX8_taken_1 6 rfl) rfl ?_
                refine s_icmp_ne (tgt := 67) (tb_ok aX8_taken_1 7 rfl) (by decide) (fun c53 => ?_) (fun c53 => ?_)
                · refine s_bipush (v := -13) (tb_ok aX8_taken_1 15 rfl) (by decide) ?_
                  refine s_iret (tb_ok aX8_taken_1 16 rfl) rfl ?_
                  exact afZ (by rw [hk]; rfl) FrE.refl
                · exact absurd c53 (by decide)
              · exact absurd c35 (by decide)
    · exact absurd c20 (by decide)
  · exact absurd c9 (by decide)

set_option maxRecDepth 100000 in
set_option maxHeartbeats 1000000 in
theorem R_take5_3 {X : En} {L : FL} {q : Nat × Nat} {I : FI} {m : Nat} {fr fa : Nat → Int32} {M : Nat} {T : Nat → Nat → Int32} {d : Nat} {sem : Nat → Sem} (h : RSt I m fr fa M T d sem) {j : Nat} (hj : j < M) (hk : T j 0 = 5) : Ev X 60 mX8_taken (0, 0) [.ref 66, .int (nI j), .int (3)] S0 I L (R0 q) (AfZ q eB I (if isoF 3 6 (T j 0) = 1 then T j 1 else -13)) := by
  have hM5 := h.M5
  refine ev_of (by decide +kernel) rfl ?_
  show SW X _ _ _ 0 [some (.ref 66), some (.int (nI j)), some (.int (3)), none] [] S0 I L (R0 q) _
  refine s_iload_n (tb_ok aX8_taken_0 0 rfl) rfl ?_
  refine s_i2l (tb_ok aX8_taken_0 1 rfl) ?_
  refine s_lconst (v := 0) (tb_ok aX8_taken_0 2 rfl) (by decide) ?_
  refine s_ldc2 (tb_ok aX8_taken_0 3 rfl) k_RX8_111 ?_
  refine s_cSp (as := [_, .long (0), .long (5)]) (tb_ok aX8_taken_0 4 rfl) v_RX8_73 (R_in _ _ _) (by decide) rfl rfl (Nat.le_of_ble_eq_true rfl) ?_
  refine s_topi (bI_t (by decide)) ?_
  refine s_if_ne (tgt := 15) (tb_ok aX8_taken_0 5 rfl) (by decide) (fun c9 => ?_) (fun c9 => ?_)
  · refine s_aload_n (tb_ok aX8_taken_0 8 rfl) rfl ?_
    refine s_iload_n (tb_ok aX8_taken_0 9 rfl) rfl ?_
    refine s_cVp (as := [.int (nI j)]) (tb_ok aX8_taken_0 10 rfl) v_RX8_90 (R_isHouse h.mn _) (by decide) rfl rfl rfl rfl rfl (Nat.le_of_ble_eq_true rfl) (by decide) ?_
    refine s_topi (bI_t (vH_t hj hM5)) ?_
    refine s_if_ne (tgt := 26) (tb_ok aX8_taken_0 11 rfl) (by decide) (fun c20 => ?_) (fun c20 => ?_)
    · refine s_aload_n (tb_ok aX8_taken_0 14 rfl) rfl ?_
      refine s_getR (r := 72) (tb_ok aX8_taken_0 15 rfl) f_RX8_29 rfl rfl rfl ?_
      refine s_iload_n (tb_ok aX8_taken_0 16 rfl) rfl ?_
      refine s_ialdX (x := (5)) (tb_ok aX8_taken_0 17 rfl) rfl (by omega) (by decide) ((h.c0 hj).trans hk) ?_
      refine s_istore_n (ls' := [some (.ref 66), some (.int (nI j)), some (.int (3)), some (.int (5))]) (tb_ok aX8_taken_0 18 rfl) rfl rfl ?_
      refine s_iload_n (tb_ok aX8_taken_0 19 rfl) rfl ?_
      refine s_iconst (v := -1) (tb_ok aX8_taken_0 20 rfl) (by decide) ?_
      refine s_icmp_eq (tgt := 51) (tb_ok aX8_taken_0 21 rfl) (by decide) (fun c35 => ?_) (fun c35 => ?_)
      · exact absurd c35 (by decide)
      · refine s_iload_n (tb_ok aX8_taken_0 22 rfl) rfl ?_
        refine s_iload_n (tb_ok aX8_taken_0 23 rfl) rfl ?_
        refine s_icmp_eq (tgt := 51) (tb_ok aX8_taken_1 0 rfl) (by decide) (fun c40 => ?_) (fun c40 => ?_)
        · exact absurd c40 (by decide)
        · refine s_iload_n (tb_ok aX8_taken_1 1 rfl) rfl ?_
          refine s_cSp (as := [.int (5)]) (tb_ok aX8_taken_1 2 rfl) v_RX8_451 (R_over5) (by decide) rfl rfl (Nat.le_of_ble_eq_true rfl) ?_
          refine s_istore_n (ls' := [some (.ref 66), some (.int (nI j)), some (.int (3)), some (.int (0))]) (tb_ok aX8_taken_1 3 rfl) rfl rfl ?_
          refine s_goto (tgt := 33) (tb_ok aX8_taken_1 4 rfl) (by decide) ?_
          refine s_iload_n (tb_ok aX8_taken_0 19 rfl) rfl ?_
          refine s_iconst (v := -1) (tb_ok aX8_taken_0 20 rfl) (by decide) ?_
          refine s_icmp_eq (tgt := 51) (tb_ok aX8_taken_0 21 rfl) (by decide) (fun c35 => ?_) (fun c35 => ?_)
          · exact absurd c35 (by decide)
          · refine s_iload_n (tb_ok aX8_taken_0 22 rfl) rfl ?_
            refine s_iload_n (tb_ok aX8_taken_0 23 rfl) rfl ?_
            refine s_icmp_eq (tgt := 51) (tb_ok aX8_taken_1 0 rfl) (by decide) (fun c40 => ?_) (fun c40 => ?_)
            · exact absurd c40 (by decide)
            · refine s_iload_n (tb_ok aX8_taken_1 1 rfl) rfl ?_
              refine s_cSp (as := [.int (0)]) (tb_ok aX8_taken_1 2 rfl) v_RX8_451 (R_over0) (by decide) rfl rfl (Nat.le_of_ble_eq_true rfl) ?_
              refine s_istore_n (ls' := [some (.ref 66), some (.int (nI j)), some (.int (3)), some (.int (-1))]) (tb_ok aX8_taken_1 3 rfl) rfl rfl ?_
              refine s_goto (tgt := 33) (tb_ok aX8_taken_1 4 rfl) (by decide) ?_
              refine s_iload_n (tb_ok aX8_taken_0 19 rfl) rfl ?_
              refine s_iconst (v := -1) (tb_ok aX8_taken_0 20 rfl) (by decide) ?_
              refine s_icmp_eq (tgt := 51) (tb_ok aX8_taken_0 21 rfl) (by decide) (fun c35 => ?_) (fun c35 => ?_)
              · refine s_iload_n (tb_ok aX8_taken_1 5 rfl) rfl ?_
                refine s_iload_n (tb_ok aX8_taken_1 6 rfl) rfl ?_
                refine s_icmp_ne (tgt := 67) (tb_ok aX8_taken_1 7 rfl) (by decide) (fun c53 => ?_) (fun c53 => ?_)
                · refine s_bipush (v := -13) (tb_ok aX8_taken_1 15 rfl) (by decide) ?_
                  refine s_iret (tb_ok aX8_taken_1 16 rfl) rfl ?_
                  exact afZ (by rw [hk]; rfl) FrE.refl
                · exact absurd c53 (by decide)
              · exact absurd c35 (by decide)
    · exact absurd c20 (by decide)
  · exact absurd c9 (by decide)

set_option maxRecDepth 100000 in
set_option maxHeartbeats 1000000 in
theorem R_take5_4 {X : En} {L : FL} {q : Nat × Nat} {I : FI} {m : Nat} {fr fa : Nat → Int32} {M : Nat} {T : Nat → Nat → Int32} {d : Nat} {sem : Nat → Sem} (h : RSt I m fr fa M T d sem) {j : Nat} (hj : j < M) (hk : T j 0 = 5) : Ev X 60 mX8_taken (0, 0) [.ref 66, .int (nI j), .int (4)] S0 I L (R0 q) (AfZ q eB I (if isoF 4 6 (T j 0) = 1 then T j 1 else -13)) := by
  have hM5 := h.M5
  refine ev_of (by decide +kernel) rfl ?_
  show SW X _ _ _ 0 [some (.ref 66), some (.int (nI j)), some (.int (4)), none] [] S0 I L (R0 q) _
  refine s_iload_n (tb_ok aX8_taken_0 0 rfl) rfl ?_
  refine s_i2l (tb_ok aX8_taken_0 1 rfl) ?_
  refine s_lconst (v := 0) (tb_ok aX8_taken_0 2 rfl) (by decide) ?_
  refine s_ldc2 (tb_ok aX8_taken_0 3 rfl) k_RX8_111 ?_
  refine s_cSp (as := [_, .long (0), .long (5)]) (tb_ok aX8_taken_0 4 rfl) v_RX8_73 (R_in _ _ _) (by decide) rfl rfl (Nat.le_of_ble_eq_true rfl) ?_
  refine s_topi (bI_t (by decide)) ?_
  refine s_if_ne (tgt := 15) (tb_ok aX8_taken_0 5 rfl) (by decide) (fun c9 => ?_) (fun c9 => ?_)
  · refine s_aload_n (tb_ok aX8_taken_0 8 rfl) rfl ?_
    refine s_iload_n (tb_ok aX8_taken_0 9 rfl) rfl ?_
    refine s_cVp (as := [.int (nI j)]) (tb_ok aX8_taken_0 10 rfl) v_RX8_90 (R_isHouse h.mn _) (by decide) rfl rfl rfl rfl rfl (Nat.le_of_ble_eq_true rfl) (by decide) ?_
    refine s_topi (bI_t (vH_t hj hM5)) ?_
    refine s_if_ne (tgt := 26) (tb_ok aX8_taken_0 11 rfl) (by decide) (fun c20 => ?_) (fun c20 => ?_)
    · refine s_aload_n (tb_ok aX8_taken_0 14 rfl) rfl ?_
      refine s_getR (r := 72) (tb_ok aX8_taken_0 15 rfl) f_RX8_29 rfl rfl rfl ?_
      refine s_iload_n (tb_ok aX8_taken_0 16 rfl) rfl ?_
      refine s_ialdX (x := (5)) (tb_ok aX8_taken_0 17 rfl) rfl (by omega) (by decide) ((h.c0 hj).trans hk) ?_
      refine s_istore_n (ls' := [some (.ref 66), some (.int (nI j)), some (.int (4)), some (.int (5))]) (tb_ok aX8_taken_0 18 rfl) rfl rfl ?_
      refine s_iload_n (tb_ok aX8_taken_0 19 rfl) rfl ?_
      refine s_iconst (v := -1) (tb_ok aX8_taken_0 20 rfl) (by decide) ?_
      refine s_icmp_eq (tgt := 51) (tb_ok aX8_taken_0 21 rfl) (by decide) (fun c35 => ?_) (fun c35 => ?_)
      · exact absurd c35 (by decide)
      · refine s_iload_n (tb_ok aX8_taken_0 22 rfl) rfl ?_
        refine s_iload_n (tb_ok aX8_taken_0 23 rfl) rfl ?_
        refine s_icmp_eq (tgt := 51) (tb_ok aX8_taken_1 0 rfl) (by decide) (fun c40 => ?_) (fun c40 => ?_)
        · exact absurd c40 (by decide)
        · refine s_iload_n (tb_ok aX8_taken_1 1 rfl) rfl ?_
          refine s_cSp (as := [.int (5)]) (tb_ok aX8_taken_1 2 rfl) v_RX8_451 (R_over5) (by decide) rfl rfl (Nat.le_of_ble_eq_true rfl) ?_
          refine s_istore_n (ls' := [some (.ref 66), some (.int (nI j)), some (.int (4)), some (.int (0))]) (tb_ok aX8_taken_1 3 rfl) rfl rfl ?_
          refine s_goto (tgt := 33) (tb_ok aX8_taken_1 4 rfl) (by decide) ?_
          refine s_iload_n (tb_ok aX8_taken_0 19 rfl) rfl ?_
          refine s_iconst (v := -1) (tb_ok aX8_taken_0 20 rfl) (by decide) ?_
          refine s_icmp_eq (tgt := 51) (tb_ok aX8_taken_0 21 rfl) (by decide) (fun c35 => ?_) (fun c35 => ?_)
          · exact absurd c35 (by decide)
          · refine s_iload_n (tb_ok aX8_taken_0 22 rfl) rfl ?_
            refine s_iload_n (tb_ok aX8_taken_0 23 rfl) rfl ?_
            refine s_icmp_eq (tgt := 51) (tb_ok aX8_taken_1 0 rfl) (by decide) (fun c40 => ?_) (fun c40 => ?_)
            · exact absurd c40 (by decide)
            · refine s_iload_n (tb_ok aX8_taken_1 1 rfl) rfl ?_
              refine s_cSp (as := [.int (0)]) (tb_ok aX8_taken_1 2 rfl) v_RX8_451 (R_over0) (by decide) rfl rfl (Nat.le_of_ble_eq_true rfl) ?_
              refine s_istore_n (ls' := [some (.ref 66), some (.int (nI j)), some (.int (4)), some (.int (-1))]) (tb_ok aX8_taken_1 3 rfl) rfl rfl ?_
              refine s_goto (tgt := 33) (tb_ok aX8_taken_1 4 rfl) (by decide) ?_
              refine s_iload_n (tb_ok aX8_taken_0 19 rfl) rfl ?_
              refine s_iconst (v := -1) (tb_ok aX8_taken_0 20 rfl) (by decide) ?_
              refine s_icmp_eq (tgt := 51) (tb_ok aX8_taken_0 21 rfl) (by decide) (fun c35 => ?_) (fun c35 => ?_)
              · refine s_iload_n (tb_ok aX8_taken_1 5 rfl) rfl ?_
                refine s_iload_n (tb_ok aX8_taken_1 6 rfl) rfl ?_
                refine s_icmp_ne (tgt := 67) (tb_ok aX8_taken_1 7 rfl) (by decide) (fun c53 => ?_) (fun c53 => ?_)
                · refine s_bipush (v := -13) (tb_ok aX8_taken_1 15 rfl) (by decide) ?_
                  refine s_iret (tb_ok aX8_taken_1 16 rfl) rfl ?_
                  exact afZ (by rw [hk]; rfl) FrE.refl
                · exact absurd c53 (by decide)
              · exact absurd c35 (by decide)
    · exact absurd c20 (by decide)
  · exact absurd c9 (by decide)

set_option maxRecDepth 100000 in
set_option maxHeartbeats 1000000 in
theorem R_take5_5 {X : En} {L : FL} {q : Nat × Nat} {I : FI} {m : Nat} {fr fa : Nat → Int32} {M : Nat} {T : Nat → Nat → Int32} {d : Nat} {sem : Nat → Sem} (h : RSt I m fr fa M T d sem) {j : Nat} (hj : j < M) (hk : T j 0 = 5) : Ev X 60 mX8_taken (0, 0) [.ref 66, .int (nI j), .int (5)] S0 I L (R0 q) (AfZ q eB I (if isoF 5 6 (T j 0) = 1 then T j 1 else -13)) := by
  have hM5 := h.M5
  refine ev_of (by decide +kernel) rfl ?_
  show SW X _ _ _ 0 [some (.ref 66), some (.int (nI j)), some (.int (5)), none] [] S0 I L (R0 q) _
  refine s_iload_n (tb_ok aX8_taken_0 0 rfl) rfl ?_
  refine s_i2l (tb_ok aX8_taken_0 1 rfl) ?_
  refine s_lconst (v := 0) (tb_ok aX8_taken_0 2 rfl) (by decide) ?_
  refine s_ldc2 (tb_ok aX8_taken_0 3 rfl) k_RX8_111 ?_
  refine s_cSp (as := [_, .long (0), .long (5)]) (tb_ok aX8_taken_0 4 rfl) v_RX8_73 (R_in _ _ _) (by decide) rfl rfl (Nat.le_of_ble_eq_true rfl) ?_
  refine s_topi (bI_t (by decide)) ?_
  refine s_if_ne (tgt := 15) (tb_ok aX8_taken_0 5 rfl) (by decide) (fun c9 => ?_) (fun c9 => ?_)
  · refine s_aload_n (tb_ok aX8_taken_0 8 rfl) rfl ?_
    refine s_iload_n (tb_ok aX8_taken_0 9 rfl) rfl ?_
    refine s_cVp (as := [.int (nI j)]) (tb_ok aX8_taken_0 10 rfl) v_RX8_90 (R_isHouse h.mn _) (by decide) rfl rfl rfl rfl rfl (Nat.le_of_ble_eq_true rfl) (by decide) ?_
    refine s_topi (bI_t (vH_t hj hM5)) ?_
    refine s_if_ne (tgt := 26) (tb_ok aX8_taken_0 11 rfl) (by decide) (fun c20 => ?_) (fun c20 => ?_)
    · refine s_aload_n (tb_ok aX8_taken_0 14 rfl) rfl ?_
      refine s_getR (r := 72) (tb_ok aX8_taken_0 15 rfl) f_RX8_29 rfl rfl rfl ?_
      refine s_iload_n (tb_ok aX8_taken_0 16 rfl) rfl ?_
      refine s_ialdX (x := (5)) (tb_ok aX8_taken_0 17 rfl) rfl (by omega) (by decide) ((h.c0 hj).trans hk) ?_
      refine s_istore_n (ls' := [some (.ref 66), some (.int (nI j)), some (.int (5)), some (.int (5))]) (tb_ok aX8_taken_0 18 rfl) rfl rfl ?_
      refine s_iload_n (tb_ok aX8_taken_0 19 rfl) rfl ?_
      refine s_iconst (v := -1) (tb_ok aX8_taken_0 20 rfl) (by decide) ?_
      refine s_icmp_eq (tgt := 51) (tb_ok aX8_taken_0 21 rfl) (by decide) (fun c35 => ?_) (fun c35 => ?_)
      · exact absurd c35 (by decide)
      · refine s_iload_n (tb_ok aX8_taken_0 22 rfl) rfl ?_
        refine s_iload_n (tb_ok aX8_taken_0 23 rfl) rfl ?_
        refine s_icmp_eq (tgt := 51) (tb_ok aX8_taken_1 0 rfl) (by decide) (fun c40 => ?_) (fun c40 => ?_)
        · refine s_iload_n (tb_ok aX8_taken_1 5 rfl) rfl ?_
          refine s_iload_n (tb_ok aX8_taken_1 6 rfl) rfl ?_
          refine s_icmp_ne (tgt := 67) (tb_ok aX8_taken_1 7 rfl) (by decide) (fun c53 => ?_) (fun c53 => ?_)
          · exact absurd c53 (by decide)
          · refine s_aload_n (tb_ok aX8_taken_1 8 rfl) rfl ?_
            refine s_getR (r := 73) (tb_ok aX8_taken_1 9 rfl) f_RX8_32 rfl rfl rfl ?_
            refine s_iconst (v := 4) (tb_ok aX8_taken_1 10 rfl) (by decide) ?_
            refine s_iload_n (tb_ok aX8_taken_1 11 rfl) rfl ?_
            refine s_imul (tb_ok aX8_taken_1 12 rfl) ?_
            refine s_topi (z := (nI (4 * j))) (nI_mul 4 j) ?_
            refine s_ialdX (x := (T j 1)) (tb_ok aX8_taken_1 13 rfl) rfl (by omega) (by decide) (h.c1 hj) ?_
            refine s_goto (tgt := 69) (tb_ok aX8_taken_1 14 rfl) (by decide) ?_
            refine s_iret (tb_ok aX8_taken_1 16 rfl) rfl ?_
            exact afZ (by rw [hk]; rfl) FrE.refl
        · exact absurd c40 (by decide)
    · exact absurd c20 (by decide)
  · exact absurd c9 (by decide)

theorem R_takk5 {X : En} {L : FL} {q : Nat × Nat} {I : FI} {m : Nat} {fr fa : Nat → Int32} {M : Nat} {T : Nat → Nat → Int32} {d : Nat} {sem : Nat → Sem} (h : RSt I m fr fa M T d sem) {j k : Nat} (hj : j < M) (hk6 : k < 6) (hk : T j 0 = 5) : Ev X 60 mX8_taken (0, 0) [.ref 66, .int (nI j), .int (nI k)] S0 I L (R0 q) (AfZ q eB I (if isoF (nI k) 6 (T j 0) = 1 then T j 1 else -13)) := by
  have e : k = 0 ∨ k = 1 ∨ k = 2 ∨ k = 3 ∨ k = 4 ∨ k = 5 := by omega
  rcases e with e | e | e | e | e | e <;> subst e
  · exact R_take5_0 h hj hk
  · exact R_take5_1 h hj hk
  · exact R_take5_2 h hj hk
  · exact R_take5_3 h hj hk
  · exact R_take5_4 h hj hk
  · exact R_take5_5 h hj hk
theorem R_takenP {X : En} {L : FL} {q : Nat × Nat} {I : FI} {m : Nat} {fr fa : Nat → Int32} {M : Nat} {T : Nat → Nat → Int32} {d : Nat} {sem : Nat → Sem} (h : RSt I m fr fa M T d sem) {j k : Nat} (hj : j < M) (hk6 : k < 6) : Ev X 60 mX8_taken (0, 0) [.ref 66, .int (nI j), .int (nI k)] S0 I L (R0 q) (AfZ q eB I (if isoF (nI k) 6 (T j 0) = 1 then T j 1 else -13)) := by
  obtain ⟨⟨i, hi, ei⟩, _⟩ := h.ok hj
  have e : i = 0 ∨ i = 1 ∨ i = 2 ∨ i = 3 ∨ i = 4 ∨ i = 5 := by omega
  rcases e with e | e | e | e | e | e <;> subst e
  · exact R_takk0 h hj hk6 ei
  · exact R_takk1 h hj hk6 ei
  · exact R_takk2 h hj hk6 ei
  · exact R_takk3 h hj hk6 ei
  · exact R_takk4 h hj hk6 ei
  · exact R_takk5 h hj hk6 ei
set_option maxRecDepth 100000 in
set_option maxHeartbeats 1000000 in
theorem R_takenB {X : En} {L : FL} {q : Nat × Nat} {I : FI} {m : Nat} {fr fa : Nat → Int32} {M : Nat} {T : Nat → Nat → Int32} {d : Nat} {sem : Nat → Sem} (h : RSt I m fr fa M T d sem) {x w : Int32} (hv : ¬ (¬ w < 0 ∧ ¬ 5 < w)) : Ev X 60 mX8_taken (0, 0) [.ref 66, .int x, .int w] S0 I L (R0 q) (AfZ q eB I (-2)) := by
  have hM5 := h.M5
  refine ev_of (by decide +kernel) rfl ?_
  show SW X _ _ _ 0 [some (.ref 66), some (.int x), some (.int w), none] [] S0 I L (R0 q) _
  refine s_iload_n (tb_ok aX8_taken_0 0 rfl) rfl ?_
  refine s_i2l (tb_ok aX8_taken_0 1 rfl) ?_
  refine s_lconst (v := 0) (tb_ok aX8_taken_0 2 rfl) (by decide) ?_
  refine s_ldc2 (tb_ok aX8_taken_0 3 rfl) k_RX8_111 ?_
  refine s_cSp (as := [_, .long (0), .long (5)]) (tb_ok aX8_taken_0 4 rfl) v_RX8_73 (R_in _ _ _) (by decide) rfl rfl (Nat.le_of_ble_eq_true rfl) ?_
  refine s_topi (bI_congr (in_iff (lo := 0) (hi := 5) rfl (by decide) (by decide))) ?_
  refine s_if_ne (tgt := 15) (tb_ok aX8_taken_0 5 rfl) (by decide) (fun c9 => ?_) (fun c9 => ?_)
  · exact absurd (bI_n c9) hv
  · refine s_bipush (v := -2) (tb_ok aX8_taken_0 6 rfl) (by decide) ?_
    refine s_iret (tb_ok aX8_taken_0 7 rfl) rfl ?_
    exact afZ rfl FrE.refl

set_option maxRecDepth 100000 in
set_option maxHeartbeats 1000000 in
theorem R_takenN {X : En} {L : FL} {q : Nat × Nat} {I : FI} {m : Nat} {fr fa : Nat → Int32} {M : Nat} {T : Nat → Nat → Int32} {d : Nat} {sem : Nat → Sem} (h : RSt I m fr fa M T d sem) {x : Int32} {k : Nat} (hk6 : k < 6) (hv : ¬ vH x M) : Ev X 60 mX8_taken (0, 0) [.ref 66, .int x, .int (nI k)] S0 I L (R0 q) (AfZ q eB I (-11)) := by
  have hM5 := h.M5
  refine ev_of (by decide +kernel) rfl ?_
  show SW X _ _ _ 0 [some (.ref 66), some (.int x), some (.int (nI k)), none] [] S0 I L (R0 q) _
  refine s_iload_n (tb_ok aX8_taken_0 0 rfl) rfl ?_
  refine s_i2l (tb_ok aX8_taken_0 1 rfl) ?_
  refine s_lconst (v := 0) (tb_ok aX8_taken_0 2 rfl) (by decide) ?_
  refine s_ldc2 (tb_ok aX8_taken_0 3 rfl) k_RX8_111 ?_
  refine s_cSp (as := [_, .long (0), .long (5)]) (tb_ok aX8_taken_0 4 rfl) v_RX8_73 (R_in _ _ _) (by decide) rfl rfl (Nat.le_of_ble_eq_true rfl) ?_
  refine s_topi (bI_t ((in_iff (x := nI k) (lo := 0) (hi := 5) rfl (by decide) (by decide)).mpr (inN (hi := 5) (by omega) (by decide)))) ?_
  refine s_if_ne (tgt := 15) (tb_ok aX8_taken_0 5 rfl) (by decide) (fun c9 => ?_) (fun c9 => ?_)
  · refine s_aload_n (tb_ok aX8_taken_0 8 rfl) rfl ?_
    refine s_iload_n (tb_ok aX8_taken_0 9 rfl) rfl ?_
    refine s_cVp (as := [.int x]) (tb_ok aX8_taken_0 10 rfl) v_RX8_90 (R_isHouse h.mn _) (by decide) rfl rfl rfl rfl rfl (Nat.le_of_ble_eq_true rfl) (by decide) ?_
    refine s_if_ne (tgt := 26) (tb_ok aX8_taken_0 11 rfl) (by decide) (fun c20 => ?_) (fun c20 => ?_)
    · exact absurd (bI_n c20) hv
    · refine s_bipush (v := -11) (tb_ok aX8_taken_0 12 rfl) (by decide) ?_
      refine s_iret (tb_ok aX8_taken_0 13 rfl) rfl ?_
      exact afZ rfl FrE.refl
  · exact absurd c9 (by decide)
