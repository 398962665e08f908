/-! the class: copies, houses told by a row -/
set_option maxRecDepth 100000 in
set_option maxHeartbeats 1000000 in
theorem C_copy {X : En} {I : FI} {L : FL} {q : Nat × Nat} {s o : Nat} (hrs : s < 4) (hro : o < 4) (h1 : ¬ I (rowN s) 1 = -1) (h2 : ¬ I (rowN o) 1 = -1) {zs zo : Nat} (hzs : I (rowN s) 2 = nI zs) (hzo : I (rowN o) 2 = nI zo) (hzs4 : zs ≤ 40) (hzo4 : zo ≤ 40) (hso : I (rowN s) 1 = I (rowN o) 1) {i j n : Nat} (hi : i + n ≤ zs) (hj : j + n ≤ zo) : Ev X 9 mX7_copy (0, 0) [.ref 0, .int (nI s), .int (nI i), .int (nI o), .int (nI j), .int (nI n)] S0 I L (R0 q) (PureR (some (.int (nI n))) S0 (setO I (rowN o + 1) (va_cpy (I (rowN s + 1)) (I (rowN o + 1)) i j n)) L (R0 q)) := by
  refine ev_of (by decide +kernel) rfl ?_
  show SW X _ _ _ 0 [some (.ref 0), some (.int (nI s)), some (.int (nI i)), some (.int (nI o)), some (.int (nI j)), some (.int (nI n)), none, none] [] S0 I L (R0 q) _
  refine s_aload_n (tb_ok aX7_copy_0 0 rfl) rfl ?_
  refine s_iload_n (tb_ok aX7_copy_0 1 rfl) rfl ?_
  refine s_cVp (as := [.int (nI s)]) (tb_ok aX7_copy_0 2 rfl) v_RX7_248 (E_rowAt hrs) (by decide) rfl rfl rfl rfl rfl (Nat.le_of_ble_eq_true rfl) (by decide) ?_
  refine s_astore (ls' := [some (.ref 0), some (.int (nI s)), some (.int (nI i)), some (.int (nI o)), some (.int (nI j)), some (.int (nI n)), some (.ref (rowN s)), none]) (tb_ok aX7_copy_0 3 rfl) rfl rfl ?_
  refine s_aload_n (tb_ok aX7_copy_0 4 rfl) rfl ?_
  refine s_iload_n (tb_ok aX7_copy_0 5 rfl) rfl ?_
  refine s_cVp (as := [.int (nI o)]) (tb_ok aX7_copy_0 6 rfl) v_RX7_248 (E_rowAt hro) (by decide) rfl rfl rfl rfl rfl (Nat.le_of_ble_eq_true rfl) (by decide) ?_
  refine s_astore (ls' := [some (.ref 0), some (.int (nI s)), some (.int (nI i)), some (.int (nI o)), some (.int (nI j)), some (.int (nI n)), some (.ref (rowN s)), some (.ref (rowN o))]) (tb_ok aX7_copy_0 7 rfl) rfl rfl ?_
  refine s_aload (tb_ok aX7_copy_0 8 rfl) rfl ?_
  refine s_ifnull (tb_ok aX7_copy_0 9 rfl) ?_
  refine s_aload (tb_ok aX7_copy_0 10 rfl) rfl ?_
  refine s_ifnonnull (tgt := 27) (tb_ok aX7_copy_0 11 rfl) (by decide) ?_
  refine s_aload (tb_ok aX7_copy_0 14 rfl) rfl ?_
  refine s_cVp (as := []) (tb_ok aX7_copy_0 15 rfl) v_RX7_252 (E_isMissing (row0 q hrs)) (by decide) (row0 q hrs).1 rfl rfl rfl rfl (Nat.le_of_ble_eq_true rfl) (by decide) ?_
  refine s_topi (bI_f (show ¬ I (rowN s) 1 = -1 from h1)) ?_
  refine s_if_ne (tgt := 43) (tb_ok aX7_copy_0 16 rfl) (by decide) (fun c32 => ?_) (fun c32 => ?_)
  · exact absurd c32 (by decide)
  · refine s_aload (tb_ok aX7_copy_0 17 rfl) rfl ?_
    refine s_cVp (as := []) (tb_ok aX7_copy_0 18 rfl) v_RX7_252 (E_isMissing (row0 q hro)) (by decide) (row0 q hro).1 rfl rfl rfl rfl (Nat.le_of_ble_eq_true rfl) (by decide) ?_
    refine s_topi (bI_f (show ¬ I (rowN o) 1 = -1 from h2)) ?_
    refine s_if_eq (tgt := 46) (tb_ok aX7_copy_0 19 rfl) (by decide) (fun c40 => ?_) (fun c40 => ?_)
    · refine s_aload (tb_ok aX7_copy_0 22 rfl) rfl ?_
      refine s_getI (tb_ok aX7_copy_0 23 rfl) f_RX7_314 (row0 q hrs).1 rfl rfl ?_
      refine s_aload (tb_ok aX7_copy_1 0 rfl) rfl ?_
      refine s_getI (tb_ok aX7_copy_1 1 rfl) f_RX7_314 (row0 q hro).1 rfl rfl ?_
      refine s_icmp_eq (tgt := 62) (tb_ok aX7_copy_1 2 rfl) (by decide) (fun c56 => ?_) (fun c56 => ?_)
      · refine s_aload (tb_ok aX7_copy_1 5 rfl) rfl ?_
        refine s_iload_n (tb_ok aX7_copy_1 6 rfl) rfl ?_
        refine s_iload (tb_ok aX7_copy_1 7 rfl) rfl ?_
        refine s_cVp (as := [.int (nI i), .int (nI n)]) (tb_ok aX7_copy_1 8 rfl) v_RX7_317 (E_RhasAll (row0 q hrs) _ _) (by decide) (row0 q hrs).1 rfl rfl rfl rfl (Nat.le_of_ble_eq_true rfl) (by decide) ?_
        refine s_topi (bI_t ⟨nI_pos (by omega), nI_pos (by omega), by rw [hzs]; exact nsub (by omega) (by omega) hi, nsub (z := 40) (by omega) (by omega) (by omega)⟩) ?_
        refine s_if_eq (tgt := 85) (tb_ok aX7_copy_1 9 rfl) (by decide) (fun c70 => ?_) (fun c70 => ?_)
        · exact absurd c70 (by decide)
        · refine s_aload (tb_ok aX7_copy_1 10 rfl) rfl ?_
          refine s_iload (tb_ok aX7_copy_1 11 rfl) rfl ?_
          refine s_iload (tb_ok aX7_copy_1 12 rfl) rfl ?_
          refine s_cVp (as := [.int (nI j), .int (nI n)]) (tb_ok aX7_copy_1 13 rfl) v_RX7_317 (E_RhasAll (row0 q hro) _ _) (by decide) (row0 q hro).1 rfl rfl rfl rfl (Nat.le_of_ble_eq_true rfl) (by decide) ?_
          refine s_topi (bI_t ⟨nI_pos (by omega), nI_pos (by omega), by rw [hzo]; exact nsub (by omega) (by omega) hj, nsub (z := 40) (by omega) (by omega) (by omega)⟩) ?_
          refine s_if_ne (tgt := 88) (tb_ok aX7_copy_1 14 rfl) (by decide) (fun c82 => ?_) (fun c82 => ?_)
          · refine s_aload (tb_ok aX7_copy_1 17 rfl) rfl ?_
            refine s_getR (r := (rowN s + 1)) (tb_ok aX7_copy_1 18 rfl) f_RX7_320 (row0 q hrs).1 rfl (row0 q hrs).2.1 ?_
            refine s_iload_n (tb_ok aX7_copy_1 19 rfl) rfl ?_
            refine s_aload (tb_ok aX7_copy_1 20 rfl) rfl ?_
            refine s_getR (r := (rowN o + 1)) (tb_ok aX7_copy_1 21 rfl) f_RX7_320 (row0 q hro).1 rfl (row0 q hro).2.1 ?_
            refine s_iload (tb_ok aX7_copy_1 22 rfl) rfl ?_
            refine s_iload (tb_ok aX7_copy_1 23 rfl) rfl ?_
            refine s_acopy (sp := i) (dp := j) (n := n) (tb_ok aX7_copy_2 0 rfl) rfl (row0 q hrs).2.2 (row0 q hro).2.2 (by omega) (by omega) (by decide) (by decide) (by decide) (Nat.le_of_ble_eq_true rfl) ?_
            refine s_iload (tb_ok aX7_copy_2 1 rfl) rfl ?_
            refine s_iret (tb_ok aX7_copy_2 2 rfl) rfl ?_
            exact pureR
          · exact absurd c82 (by decide)
      · exact absurd hso c56
    · exact absurd c40 (by decide)

set_option maxRecDepth 100000 in
set_option maxHeartbeats 1000000 in
theorem C_copyO {X : En} {I : FI} {L : FL} {q : Nat × Nat} {s o : Nat} (hrs : s < 4) (hro : o < 4) (h1 : ¬ I (rowN s) 1 = -1) (h2 : ¬ I (rowN o) 1 = -1) (hso : I (rowN s) 1 = I (rowN o) 1) {x z w : Int32} (hv : ¬ ((¬ w < 0 ∧ ¬ x < 0 ∧ x ≤ I (rowN s) 2 - w ∧ x ≤ nI 40 - w) ∧ (¬ w < 0 ∧ ¬ z < 0 ∧ z ≤ I (rowN o) 2 - w ∧ z ≤ nI 40 - w))) : Ev X 9 mX7_copy (0, 0) [.ref 0, .int (nI s), .int x, .int (nI o), .int z, .int w] S0 I L (R0 q) (AgLR (some (.int (-12))) (I) L q) := by
  refine ev_of (by decide +kernel) rfl ?_
  show SW X _ _ _ 0 [some (.ref 0), some (.int (nI s)), some (.int x), some (.int (nI o)), some (.int z), some (.int w), none, none] [] S0 I L (R0 q) _
  refine s_aload_n (tb_ok aX7_copy_0 0 rfl) rfl ?_
  refine s_iload_n (tb_ok aX7_copy_0 1 rfl) rfl ?_
  refine s_cVp (as := [.int (nI s)]) (tb_ok aX7_copy_0 2 rfl) v_RX7_248 (E_rowAt hrs) (by decide) rfl rfl rfl rfl rfl (Nat.le_of_ble_eq_true rfl) (by decide) ?_
  refine s_astore (ls' := [some (.ref 0), some (.int (nI s)), some (.int x), some (.int (nI o)), some (.int z), some (.int w), some (.ref (rowN s)), none]) (tb_ok aX7_copy_0 3 rfl) rfl rfl ?_
  refine s_aload_n (tb_ok aX7_copy_0 4 rfl) rfl ?_
  refine s_iload_n (tb_ok aX7_copy_0 5 rfl) rfl ?_
  refine s_cVp (as := [.int (nI o)]) (tb_ok aX7_copy_0 6 rfl) v_RX7_248 (E_rowAt hro) (by decide) rfl rfl rfl rfl rfl (Nat.le_of_ble_eq_true rfl) (by decide) ?_
  refine s_astore (ls' := [some (.ref 0), some (.int (nI s)), some (.int x), some (.int (nI o)), some (.int z), some (.int w), some (.ref (rowN s)), some (.ref (rowN o))]) (tb_ok aX7_copy_0 7 rfl) rfl rfl ?_
  refine s_aload (tb_ok aX7_copy_0 8 rfl) rfl ?_
  refine s_ifnull (tb_ok aX7_copy_0 9 rfl) ?_
  refine s_aload (tb_ok aX7_copy_0 10 rfl) rfl ?_
  refine s_ifnonnull (tgt := 27) (tb_ok aX7_copy_0 11 rfl) (by decide) ?_
  refine s_aload (tb_ok aX7_copy_0 14 rfl) rfl ?_
  refine s_cVp (as := []) (tb_ok aX7_copy_0 15 rfl) v_RX7_252 (E_isMissing (row0 q hrs)) (by decide) (row0 q hrs).1 rfl rfl rfl rfl (Nat.le_of_ble_eq_true rfl) (by decide) ?_
  refine s_topi (bI_f (show ¬ I (rowN s) 1 = -1 from h1)) ?_
  refine s_if_ne (tgt := 43) (tb_ok aX7_copy_0 16 rfl) (by decide) (fun c32 => ?_) (fun c32 => ?_)
  · exact absurd c32 (by decide)
  · refine s_aload (tb_ok aX7_copy_0 17 rfl) rfl ?_
    refine s_cVp (as := []) (tb_ok aX7_copy_0 18 rfl) v_RX7_252 (E_isMissing (row0 q hro)) (by decide) (row0 q hro).1 rfl rfl rfl rfl (Nat.le_of_ble_eq_true rfl) (by decide) ?_
    refine s_topi (bI_f (show ¬ I (rowN o) 1 = -1 from h2)) ?_
    refine s_if_eq (tgt := 46) (tb_ok aX7_copy_0 19 rfl) (by decide) (fun c40 => ?_) (fun c40 => ?_)
    · refine s_aload (tb_ok aX7_copy_0 22 rfl) rfl ?_
      refine s_getI (tb_ok aX7_copy_0 23 rfl) f_RX7_314 (row0 q hrs).1 rfl rfl ?_
      refine s_aload (tb_ok aX7_copy_1 0 rfl) rfl ?_
      refine s_getI (tb_ok aX7_copy_1 1 rfl) f_RX7_314 (row0 q hro).1 rfl rfl ?_
      refine s_icmp_eq (tgt := 62) (tb_ok aX7_copy_1 2 rfl) (by decide) (fun c56 => ?_) (fun c56 => ?_)
      · refine s_aload (tb_ok aX7_copy_1 5 rfl) rfl ?_
        refine s_iload_n (tb_ok aX7_copy_1 6 rfl) rfl ?_
        refine s_iload (tb_ok aX7_copy_1 7 rfl) rfl ?_
        refine s_cVp (as := [.int x, .int w]) (tb_ok aX7_copy_1 8 rfl) v_RX7_317 (E_RhasAll (row0 q hrs) _ _) (by decide) (row0 q hrs).1 rfl rfl rfl rfl (Nat.le_of_ble_eq_true rfl) (by decide) ?_
        refine s_if_eq (tgt := 85) (tb_ok aX7_copy_1 9 rfl) (by decide) (fun c70 => ?_) (fun c70 => ?_)
        · refine s_bipush (v := -12) (tb_ok aX7_copy_1 15 rfl) (by decide) ?_
          refine s_iret (tb_ok aX7_copy_1 16 rfl) rfl ?_
          exact ⟨rfl, rfl, AgL.rf, rfl, rfl⟩
        · refine s_aload (tb_ok aX7_copy_1 10 rfl) rfl ?_
          refine s_iload (tb_ok aX7_copy_1 11 rfl) rfl ?_
          refine s_iload (tb_ok aX7_copy_1 12 rfl) rfl ?_
          refine s_cVp (as := [.int z, .int w]) (tb_ok aX7_copy_1 13 rfl) v_RX7_317 (E_RhasAll (row0 q hro) _ _) (by decide) (row0 q hro).1 rfl rfl rfl rfl (Nat.le_of_ble_eq_true rfl) (by decide) ?_
          refine s_if_ne (tgt := 88) (tb_ok aX7_copy_1 14 rfl) (by decide) (fun c82 => ?_) (fun c82 => ?_)
          · exact absurd ⟨bI_n c70, bI_n c82⟩ hv
          · refine s_bipush (v := -12) (tb_ok aX7_copy_1 15 rfl) (by decide) ?_
            refine s_iret (tb_ok aX7_copy_1 16 rfl) rfl ?_
            exact ⟨rfl, rfl, AgL.rf, rfl, rfl⟩
      · exact absurd hso c56
    · exact absurd c40 (by decide)

set_option maxRecDepth 100000 in
set_option maxHeartbeats 1000000 in
theorem C_copyU {X : En} {I : FI} {L : FL} {q : Nat × Nat} {s o : Nat} (hrs : s < 4) (hro : o < 4) (h1 : ¬ I (rowN s) 1 = -1) (h2 : ¬ I (rowN o) 1 = -1) (hso : ¬ I (rowN s) 1 = I (rowN o) 1) {x z w : Int32} : Ev X 9 mX7_copy (0, 0) [.ref 0, .int (nI s), .int x, .int (nI o), .int z, .int w] S0 I L (R0 q) (AgLR (some (.int (-13))) (I) L q) := by
  refine ev_of (by decide +kernel) rfl ?_
  show SW X _ _ _ 0 [some (.ref 0), some (.int (nI s)), some (.int x), some (.int (nI o)), some (.int z), some (.int w), none, none] [] S0 I L (R0 q) _
  refine s_aload_n (tb_ok aX7_copy_0 0 rfl) rfl ?_
  refine s_iload_n (tb_ok aX7_copy_0 1 rfl) rfl ?_
  refine s_cVp (as := [.int (nI s)]) (tb_ok aX7_copy_0 2 rfl) v_RX7_248 (E_rowAt hrs) (by decide) rfl rfl rfl rfl rfl (Nat.le_of_ble_eq_true rfl) (by decide) ?_
  refine s_astore (ls' := [some (.ref 0), some (.int (nI s)), some (.int x), some (.int (nI o)), some (.int z), some (.int w), some (.ref (rowN s)), none]) (tb_ok aX7_copy_0 3 rfl) rfl rfl ?_
  refine s_aload_n (tb_ok aX7_copy_0 4 rfl) rfl ?_
  refine s_iload_n (tb_ok aX7_copy_0 5 rfl) rfl ?_
  refine s_cVp (as := [.int (nI o)]) (tb_ok aX7_copy_0 6 rfl) v_RX7_248 (E_rowAt hro) (by decide) rfl rfl rfl rfl rfl (Nat.le_of_ble_eq_true rfl) (by decide) ?_
  refine s_astore (ls' := [some (.ref 0), some (.int (nI s)), some (.int x), some (.int (nI o)), some (.int z), some (.int w), some (.ref (rowN s)), some (.ref (rowN o))]) (tb_ok aX7_copy_0 7 rfl) rfl rfl ?_
  refine s_aload (tb_ok aX7_copy_0 8 rfl) rfl ?_
  refine s_ifnull (tb_ok aX7_copy_0 9 rfl) ?_
  refine s_aload (tb_ok aX7_copy_0 10 rfl) rfl ?_
  refine s_ifnonnull (tgt := 27) (tb_ok aX7_copy_0 11 rfl) (by decide) ?_
  refine s_aload (tb_ok aX7_copy_0 14 rfl) rfl ?_
  refine s_cVp (as := []) (tb_ok aX7_copy_0 15 rfl) v_RX7_252 (E_isMissing (row0 q hrs)) (by decide) (row0 q hrs).1 rfl rfl rfl rfl (Nat.le_of_ble_eq_true rfl) (by decide) ?_
  refine s_topi (bI_f (show ¬ I (rowN s) 1 = -1 from h1)) ?_
  refine s_if_ne (tgt := 43) (tb_ok aX7_copy_0 16 rfl) (by decide) (fun c32 => ?_) (fun c32 => ?_)
  · exact absurd c32 (by decide)
  · refine s_aload (tb_ok aX7_copy_0 17 rfl) rfl ?_
    refine s_cVp (as := []) (tb_ok aX7_copy_0 18 rfl) v_RX7_252 (E_isMissing (row0 q hro)) (by decide) (row0 q hro).1 rfl rfl rfl rfl (Nat.le_of_ble_eq_true rfl) (by decide) ?_
    refine s_topi (bI_f (show ¬ I (rowN o) 1 = -1 from h2)) ?_
    refine s_if_eq (tgt := 46) (tb_ok aX7_copy_0 19 rfl) (by decide) (fun c40 => ?_) (fun c40 => ?_)
    · refine s_aload (tb_ok aX7_copy_0 22 rfl) rfl ?_
      refine s_getI (tb_ok aX7_copy_0 23 rfl) f_RX7_314 (row0 q hrs).1 rfl rfl ?_
      refine s_aload (tb_ok aX7_copy_1 0 rfl) rfl ?_
      refine s_getI (tb_ok aX7_copy_1 1 rfl) f_RX7_314 (row0 q hro).1 rfl rfl ?_
      refine s_icmp_eq (tgt := 62) (tb_ok aX7_copy_1 2 rfl) (by decide) (fun c56 => ?_) (fun c56 => ?_)
      · exact absurd c56 hso
      · refine s_bipush (v := -13) (tb_ok aX7_copy_1 3 rfl) (by decide) ?_
        refine s_iret (tb_ok aX7_copy_1 4 rfl) rfl ?_
        exact ⟨rfl, rfl, AgL.rf, rfl, rfl⟩
    · exact absurd c40 (by decide)

set_option maxRecDepth 100000 in
set_option maxHeartbeats 1000000 in
theorem C_copyN1 {X : En} {I : FI} {L : FL} {q : Nat × Nat} {s o : Nat} (hrs : s < 4) (hro : o < 4) (h1 : I (rowN s) 1 = -1) {x z w : Int32} : Ev X 9 mX7_copy (0, 0) [.ref 0, .int (nI s), .int x, .int (nI o), .int z, .int w] S0 I L (R0 q) (AgLR (some (.int (-11))) (I) L q) := by
  refine ev_of (by decide +kernel) rfl ?_
  show SW X _ _ _ 0 [some (.ref 0), some (.int (nI s)), some (.int x), some (.int (nI o)), some (.int z), some (.int w), none, none] [] S0 I L (R0 q) _
  refine s_aload_n (tb_ok aX7_copy_0 0 rfl) rfl ?_
  refine s_iload_n (tb_ok aX7_copy_0 1 rfl) rfl ?_
  refine s_cVp (as := [.int (nI s)]) (tb_ok aX7_copy_0 2 rfl) v_RX7_248 (E_rowAt hrs) (by decide) rfl rfl rfl rfl rfl (Nat.le_of_ble_eq_true rfl) (by decide) ?_
  refine s_astore (ls' := [some (.ref 0), some (.int (nI s)), some (.int x), some (.int (nI o)), some (.int z), some (.int w), some (.ref (rowN s)), none]) (tb_ok aX7_copy_0 3 rfl) rfl rfl ?_
  refine s_aload_n (tb_ok aX7_copy_0 4 rfl) rfl ?_
  refine s_iload_n (tb_ok aX7_copy_0 5 rfl) rfl ?_
  refine s_cVp (as := [.int (nI o)]) (tb_ok aX7_copy_0 6 rfl) v_RX7_248 (E_rowAt hro) (by decide) rfl rfl rfl rfl rfl (Nat.le_of_ble_eq_true rfl) (by decide) ?_
  refine s_astore (ls' := [some (.ref 0), some (.int (nI s)), some (.int x), some (.int (nI o)), some (.int z), some (.int w), some (.ref (rowN s)), some (.ref (rowN o))]) (tb_ok aX7_copy_0 7 rfl) rfl rfl ?_
  refine s_aload (tb_ok aX7_copy_0 8 rfl) rfl ?_
  refine s_ifnull (tb_ok aX7_copy_0 9 rfl) ?_
  refine s_aload (tb_ok aX7_copy_0 10 rfl) rfl ?_
  refine s_ifnonnull (tgt := 27) (tb_ok aX7_copy_0 11 rfl) (by decide) ?_
  refine s_aload (tb_ok aX7_copy_0 14 rfl) rfl ?_
  refine s_cVp (as := []) (tb_ok aX7_copy_0 15 rfl) v_RX7_252 (E_isMissing (row0 q hrs)) (by decide) (row0 q hrs).1 rfl rfl rfl rfl (Nat.le_of_ble_eq_true rfl) (by decide) ?_
  refine s_topi (bI_t h1) ?_
  refine s_if_ne (tgt := 43) (tb_ok aX7_copy_0 16 rfl) (by decide) (fun c32 => ?_) (fun c32 => ?_)
  · refine s_bipush (v := -11) (tb_ok aX7_copy_0 20 rfl) (by decide) ?_
    refine s_iret (tb_ok aX7_copy_0 21 rfl) rfl ?_
    exact ⟨rfl, rfl, AgL.rf, rfl, rfl⟩
  · exact absurd c32 (by decide)

set_option maxRecDepth 100000 in
set_option maxHeartbeats 1000000 in
theorem C_copyN2 {X : En} {I : FI} {L : FL} {q : Nat × Nat} {s o : Nat} (hrs : s < 4) (hro : o < 4) (h1 : ¬ I (rowN s) 1 = -1) (h2 : I (rowN o) 1 = -1) {x z w : Int32} : Ev X 9 mX7_copy (0, 0) [.ref 0, .int (nI s), .int x, .int (nI o), .int z, .int w] S0 I L (R0 q) (AgLR (some (.int (-11))) (I) L q) := by
  refine ev_of (by decide +kernel) rfl ?_
  show SW X _ _ _ 0 [some (.ref 0), some (.int (nI s)), some (.int x), some (.int (nI o)), some (.int z), some (.int w), none, none] [] S0 I L (R0 q) _
  refine s_aload_n (tb_ok aX7_copy_0 0 rfl) rfl ?_
  refine s_iload_n (tb_ok aX7_copy_0 1 rfl) rfl ?_
  refine s_cVp (as := [.int (nI s)]) (tb_ok aX7_copy_0 2 rfl) v_RX7_248 (E_rowAt hrs) (by decide) rfl rfl rfl rfl rfl (Nat.le_of_ble_eq_true rfl) (by decide) ?_
  refine s_astore (ls' := [some (.ref 0), some (.int (nI s)), some (.int x), some (.int (nI o)), some (.int z), some (.int w), some (.ref (rowN s)), none]) (tb_ok aX7_copy_0 3 rfl) rfl rfl ?_
  refine s_aload_n (tb_ok aX7_copy_0 4 rfl) rfl ?_
  refine s_iload_n (tb_ok aX7_copy_0 5 rfl) rfl ?_
  refine s_cVp (as := [.int (nI o)]) (tb_ok aX7_copy_0 6 rfl) v_RX7_248 (E_rowAt hro) (by decide) rfl rfl rfl rfl rfl (Nat.le_of_ble_eq_true rfl) (by decide) ?_
  refine s_astore (ls' := [some (.ref 0), some (.int (nI s)), some (.int x), some (.int (nI o)), some (.int z), some (.int w), some (.ref (rowN s)), some (.ref (rowN o))]) (tb_ok aX7_copy_0 7 rfl) rfl rfl ?_
  refine s_aload (tb_ok aX7_copy_0 8 rfl) rfl ?_
  refine s_ifnull (tb_ok aX7_copy_0 9 rfl) ?_
  refine s_aload (tb_ok aX7_copy_0 10 rfl) rfl ?_
  refine s_ifnonnull (tgt := 27) (tb_ok aX7_copy_0 11 rfl) (by decide) ?_
  refine s_aload (tb_ok aX7_copy_0 14 rfl) rfl ?_
  refine s_cVp (as := []) (tb_ok aX7_copy_0 15 rfl) v_RX7_252 (E_isMissing (row0 q hrs)) (by decide) (row0 q hrs).1 rfl rfl rfl rfl (Nat.le_of_ble_eq_true rfl) (by decide) ?_
  refine s_topi (bI_f (show ¬ I (rowN s) 1 = -1 from h1)) ?_
  refine s_if_ne (tgt := 43) (tb_ok aX7_copy_0 16 rfl) (by decide) (fun c32 => ?_) (fun c32 => ?_)
  · exact absurd c32 (by decide)
  · refine s_aload (tb_ok aX7_copy_0 17 rfl) rfl ?_
    refine s_cVp (as := []) (tb_ok aX7_copy_0 18 rfl) v_RX7_252 (E_isMissing (row0 q hro)) (by decide) (row0 q hro).1 rfl rfl rfl rfl (Nat.le_of_ble_eq_true rfl) (by decide) ?_
    refine s_topi (bI_t h2) ?_
    refine s_if_eq (tgt := 46) (tb_ok aX7_copy_0 19 rfl) (by decide) (fun c40 => ?_) (fun c40 => ?_)
    · exact absurd c40 (by decide)
    · refine s_bipush (v := -11) (tb_ok aX7_copy_0 20 rfl) (by decide) ?_
      refine s_iret (tb_ok aX7_copy_0 21 rfl) rfl ?_
      exact ⟨rfl, rfl, AgL.rf, rfl, rfl⟩

set_option maxRecDepth 100000 in
set_option maxHeartbeats 1000000 in
theorem C_copyX {X : En} {I : FI} {L : FL} {q : Nat × Nat} {a b x z w : Int32} (ha : a < 0 ∨ nI 4 ≤ a) (hb : b < 0 ∨ nI 4 ≤ b) : Ev X 9 mX7_copy (0, 0) [.ref 0, .int a, .int x, .int b, .int z, .int w] S0 I L (R0 q) (AgLR (some (.int (-2))) (I) L q) := by
  refine ev_of (by decide +kernel) rfl ?_
  show SW X _ _ _ 0 [some (.ref 0), some (.int a), some (.int x), some (.int b), some (.int z), some (.int w), none, none] [] S0 I L (R0 q) _
  refine s_aload_n (tb_ok aX7_copy_0 0 rfl) rfl ?_
  refine s_iload_n (tb_ok aX7_copy_0 1 rfl) rfl ?_
  refine s_cVp (as := [.int a]) (tb_ok aX7_copy_0 2 rfl) v_RX7_248 (E_rowAtN ha) (by decide) rfl rfl rfl rfl rfl (Nat.le_of_ble_eq_true rfl) (by decide) ?_
  refine s_astoreN (ls' := [some (.ref 0), some (.int a), some (.int x), some (.int b), some (.int z), some (.int w), some (.null), none]) (tb_ok aX7_copy_0 3 rfl) rfl rfl ?_
  refine s_aload_n (tb_ok aX7_copy_0 4 rfl) rfl ?_
  refine s_iload_n (tb_ok aX7_copy_0 5 rfl) rfl ?_
  refine s_cVp (as := [.int b]) (tb_ok aX7_copy_0 6 rfl) v_RX7_248 (E_rowAtN hb) (by decide) rfl rfl rfl rfl rfl (Nat.le_of_ble_eq_true rfl) (by decide) ?_
  refine s_astoreN (ls' := [some (.ref 0), some (.int a), some (.int x), some (.int b), some (.int z), some (.int w), some (.null), some (.null)]) (tb_ok aX7_copy_0 7 rfl) rfl rfl ?_
  refine s_aloadq (r := none) (tb_ok aX7_copy_0 8 rfl) rfl ?_
  refine s_ifnullN (tgt := 24) (tb_ok aX7_copy_0 9 rfl) (by decide) ?_
  refine s_bipush (v := -2) (tb_ok aX7_copy_0 12 rfl) (by decide) ?_
  refine s_iret (tb_ok aX7_copy_0 13 rfl) rfl ?_
  exact ⟨rfl, rfl, AgL.rf, rfl, rfl⟩

set_option maxRecDepth 100000 in
set_option maxHeartbeats 1000000 in
theorem C_copyX2 {X : En} {I : FI} {L : FL} {q : Nat × Nat} {s : Nat} (hrs : s < 4) {b x z w : Int32} (hb : b < 0 ∨ nI 4 ≤ b) : Ev X 9 mX7_copy (0, 0) [.ref 0, .int (nI s), .int x, .int b, .int z, .int w] S0 I L (R0 q) (AgLR (some (.int (-2))) (I) L q) := by
  refine ev_of (by decide +kernel) rfl ?_
  show SW X _ _ _ 0 [some (.ref 0), some (.int (nI s)), some (.int x), some (.int b), some (.int z), some (.int w), none, none] [] S0 I L (R0 q) _
  refine s_aload_n (tb_ok aX7_copy_0 0 rfl) rfl ?_
  refine s_iload_n (tb_ok aX7_copy_0 1 rfl) rfl ?_
  refine s_cVp (as := [.int (nI s)]) (tb_ok aX7_copy_0 2 rfl) v_RX7_248 (E_rowAt hrs) (by decide) rfl rfl rfl rfl rfl (Nat.le_of_ble_eq_true rfl) (by decide) ?_
  refine s_astore (ls' := [some (.ref 0), some (.int (nI s)), some (.int x), some (.int b), some (.int z), some (.int w), some (.ref (rowN s)), none]) (tb_ok aX7_copy_0 3 rfl) rfl rfl ?_
  refine s_aload_n (tb_ok aX7_copy_0 4 rfl) rfl ?_
  refine s_iload_n (tb_ok aX7_copy_0 5 rfl) rfl ?_
  refine s_cVp (as := [.int b]) (tb_ok aX7_copy_0 6 rfl) v_RX7_248 (E_rowAtN hb) (by decide) rfl rfl rfl rfl rfl (Nat.le_of_ble_eq_true rfl) (by decide) ?_
  refine s_astoreN (ls' := [some (.ref 0), some (.int (nI s)), some (.int x), some (.int b), some (.int z), some (.int w), some (.ref (rowN s)), some (.null)]) (tb_ok aX7_copy_0 7 rfl) rfl rfl ?_
  refine s_aload (tb_ok aX7_copy_0 8 rfl) rfl ?_
  refine s_ifnull (tb_ok aX7_copy_0 9 rfl) ?_
  refine s_aloadq (r := none) (tb_ok aX7_copy_0 10 rfl) rfl ?_
  refine s_ifnonnullN (tb_ok aX7_copy_0 11 rfl) ?_
  refine s_bipush (v := -2) (tb_ok aX7_copy_0 12 rfl) (by decide) ?_
  refine s_iret (tb_ok aX7_copy_0 13 rfl) rfl ?_
  exact ⟨rfl, rfl, AgL.rf, rfl, rfl⟩

set_option maxRecDepth 100000 in
set_option maxHeartbeats 1000000 in
theorem C_copyX1 {X : En} {I : FI} {L : FL} {q : Nat × Nat} {s : Nat} (hrs : s < 4) {a x z w : Int32} (ha : a < 0 ∨ nI 4 ≤ a) : Ev X 9 mX7_copy (0, 0) [.ref 0, .int a, .int x, .int (nI s), .int z, .int w] S0 I L (R0 q) (AgLR (some (.int (-2))) (I) L q) := by
  refine ev_of (by decide +kernel) rfl ?_
  show SW X _ _ _ 0 [some (.ref 0), some (.int a), some (.int x), some (.int (nI s)), some (.int z), some (.int w), none, none] [] S0 I L (R0 q) _
  refine s_aload_n (tb_ok aX7_copy_0 0 rfl) rfl ?_
  refine s_iload_n (tb_ok aX7_copy_0 1 rfl) rfl ?_
  refine s_cVp (as := [.int a]) (tb_ok aX7_copy_0 2 rfl) v_RX7_248 (E_rowAtN ha) (by decide) rfl rfl rfl rfl rfl (Nat.le_of_ble_eq_true rfl) (by decide) ?_
  refine s_astoreN (ls' := [some (.ref 0), some (.int a), some (.int x), some (.int (nI s)), some (.int z), some (.int w), some (.null), none]) (tb_ok aX7_copy_0 3 rfl) rfl rfl ?_
  refine s_aload_n (tb_ok aX7_copy_0 4 rfl) rfl ?_
  refine s_iload_n (tb_ok aX7_copy_0 5 rfl) rfl ?_
  refine s_cVp (as := [.int (nI s)]) (tb_ok aX7_copy_0 6 rfl) v_RX7_248 (E_rowAt hrs) (by decide) rfl rfl rfl rfl rfl (Nat.le_of_ble_eq_true rfl) (by decide) ?_
  refine s_astore (ls' := [some (.ref 0), some (.int a), some (.int x), some (.int (nI s)), some (.int z), some (.int w), some (.null), some (.ref (rowN s))]) (tb_ok aX7_copy_0 7 rfl) rfl rfl ?_
  refine s_aloadq (r := none) (tb_ok aX7_copy_0 8 rfl) rfl ?_
  refine s_ifnullN (tgt := 24) (tb_ok aX7_copy_0 9 rfl) (by decide) ?_
  refine s_bipush (v := -2) (tb_ok aX7_copy_0 12 rfl) (by decide) ?_
  refine s_iret (tb_ok aX7_copy_0 13 rfl) rfl ?_
  exact ⟨rfl, rfl, AgL.rf, rfl, rfl⟩

def hok6 (x z : Int32) : Prop := ¬ x < 0 ∧ x < 6 ∧ ¬ z < 0 ∧ z < 10
theorem hok_6 {x z : Int32} : hok x z ↔ hok6 x z := by
  unfold hok hok6
  simp only [Int32.lt_iff_toInt_lt]
  have e0 : (0 : Int32).toInt = 0 := by decide
  have e5 : (5 : Int32).toInt = 5 := by decide
  have e6 : (6 : Int32).toInt = 6 := by decide
  have e9 : (9 : Int32).toInt = 9 := by decide
  have e10 : (10 : Int32).toInt = 10 := by decide
  omega
/-- the houses that there are by now: M of them, as T has them -/
def HsW (I J : FI) (M : Nat) (T : Nat → Nat → Int32) : Prop := (∀ a, ¬ (5 ≤ a ∧ a ≤ 11) → J a = I a) ∧ J 5 1 = nI M ∧ (∀ k, k ≠ 1 → J 5 k = I 5 k) ∧ M ≤ 5 ∧ ∀ i, i < M → T5 (J (5 + 2 + i)) (T i)
theorem HsW.add {I J : FI} {M : Nat} {T : Nat → Nat → Int32} (h : HsW I J M T) (hM : M < 5) (x z : Int32) : HsW I (setO (up2 J 5 1 (nI (M + 1))) (5 + 2 + M) (cp5 (mkT x z 0 50 0) ((up2 J 5 1 (nI (M + 1))) (5 + 2 + M)))) (M + 1) (uT T M (mkT x z 0 50 0)) := by
  obtain ⟨h1, h2, h3, h4, h5⟩ := h
  refine ⟨fun a ha => ?_, ?_, fun k hk => ?_, by omega, fun i hi => ?_⟩
  · rw [setO_n (by omega), up2_n _ _ (by omega)]; exact h1 a ha
  · rw [setO_n (by omega), up2_oo]
  · rw [setO_n (by omega), up2_nn _ _ (fun e => hk e.2)]; exact h3 k hk
  · by_cases e : i = M
    · subst e
      rw [setO_o, uT_o]
      exact T5.cp
    · rw [setO_n (by omega), up2_n _ _ (by omega), uT_n e]
      exact h5 i (by omega)
theorem nI_m4 {n : Nat} (h : n < 2 ^ 31) : ¬ nI n = -4 := fun e => by
  have h5 := congrArg Int32.toInt e
  rw [nI_int h] at h5
  have h6 : (-4 : Int32).toInt = -4 := by decide
  omega
theorem hasA_yes {p z : Nat} (h : p + 2 ≤ z) (hz : z ≤ 40) : ¬ (2 : Int32) < 0 ∧ ¬ nI p < 0 ∧ nI p ≤ nI z - 2 ∧ nI p ≤ nI 40 - 2 :=
  ⟨by decide, nI_pos (by omega), nsub (n := 2) (by omega) (by omega) h, nsub (z := 40) (n := 2) (by omega) (by omega) (by omega)⟩
theorem hasA_no {a z K : Nat} {x : Int32} (ha : a < 2 ^ 31) (hz : z ≤ 40) (hK : K ≤ 5) (ho : z < a + 2 * K + 2) (hx : x = nI (a + 2 * K)) : ¬ (¬ (2 : Int32) < 0 ∧ ¬ x < 0 ∧ x ≤ nI z - 2 ∧ x ≤ nI 40 - 2) := by
  subst hx
  rintro ⟨_, h1, h2, h3⟩
  obtain ⟨p, hp, ep⟩ := nI_of h1
  rw [ep] at h2 h3
  have e0 : (2 : Int32).toInt = 2 := by decide
  rw [Int32.le_iff_toInt_le, Int32.toInt_sub, nI_int hp, nI_int (by omega), e0, Int.bmod_eq_of_le (by omega) (by omega)] at h2
  have hp38 : p ≤ 38 := by omega
  have e2 := congrArg Int32.toBitVec ep
  have e3 := congrArg BitVec.toNat e2
  have e4 : (a + 2 * K) % 2 ^ 32 = p % 2 ^ 32 := e3
  omega
set_option maxRecDepth 100000 in
set_option maxHeartbeats 1000000 in
theorem C_housesA {X : En} {I : FI} {L : FL} {q : Nat × Nat} {M : Nat} (hM : I 5 1 = nI M) (hM5 : M ≤ 5) {s z : Nat} (hrs : s < 4) {so : Int32} (hso : ¬ so < 0 ∧ so < 3) (hnm : ¬ I (rowN s) 1 = -1) (hsort : I (rowN s) 1 = so) (hz : I (rowN s) 2 = nI z) (hz40 : z ≤ 40) {a n : Nat} (hn : n ≤ 5) (hfit : a + 2 * n ≤ z) : Ev X 9 mX7_houses (0, 0) [.ref 0, .int (nI s), .int so, .int (nI a), .int (nI n)] S0 I L (R0 q) (fun r' S' I' L' R' => r' = some (.int (nI (hsS (fun q => I (rowN s + 1) (a + q)) M (fun j => I (5 + 2 + j)) n).2.2)) ∧ S' = S0 ∧ HsW I I' (hsS (fun q => I (rowN s + 1) (a + q)) M (fun j => I (5 + 2 + j)) n).1 (hsS (fun q => I (rowN s + 1) (a + q)) M (fun j => I (5 + 2 + j)) n).2.1 ∧ L' = L ∧ R' = R0 q) := by
  have loop : ∀ k, k ≤ n → ∀ (J : FI), ∀ (o8 o9 o10 : Option Value), (HsW I J (hsS (fun q => I (rowN s + 1) (a + q)) M (fun j => I (5 + 2 + j)) k).1 (hsS (fun q => I (rowN s + 1) (a + q)) M (fun j => I (5 + 2 + j)) k).2.1) → SW X 9 mX7_houses (0, 0) 62 [some (.ref 0), some (.int (nI s)), some (.int so), some (.int (nI a)), some (.int (nI n)), some (.ref (rowN s)), some (.int (nI (hsS (fun q => I (rowN s + 1) (a + q)) M (fun j => I (5 + 2 + j)) k).2.2)), some (.int (nI k)), o8, o9, o10] [] S0 J L (R0 q) (KQ X (fun r' S' I' L' R' => r' = some (.int (nI (hsS (fun q => I (rowN s + 1) (a + q)) M (fun j => I (5 + 2 + j)) n).2.2)) ∧ S' = S0 ∧ HsW I I' (hsS (fun q => I (rowN s + 1) (a + q)) M (fun j => I (5 + 2 + j)) n).1 (hsS (fun q => I (rowN s + 1) (a + q)) M (fun j => I (5 + 2 + j)) n).2.1 ∧ L' = L ∧ R' = R0 q)) := by
    refine for_up (P := fun k => ∀ (J : FI), ∀ (o8 o9 o10 : Option Value), (HsW I J (hsS (fun q => I (rowN s + 1) (a + q)) M (fun j => I (5 + 2 + j)) k).1 (hsS (fun q => I (rowN s + 1) (a + q)) M (fun j => I (5 + 2 + j)) k).2.1) → SW X 9 mX7_houses (0, 0) 62 [some (.ref 0), some (.int (nI s)), some (.int so), some (.int (nI a)), some (.int (nI n)), some (.ref (rowN s)), some (.int (nI (hsS (fun q => I (rowN s + 1) (a + q)) M (fun j => I (5 + 2 + j)) k).2.2)), some (.int (nI k)), o8, o9, o10] [] S0 J L (R0 q) (KQ X (fun r' S' I' L' R' => r' = some (.int (nI (hsS (fun q => I (rowN s + 1) (a + q)) M (fun j => I (5 + 2 + j)) n).2.2)) ∧ S' = S0 ∧ HsW I I' (hsS (fun q => I (rowN s + 1) (a + q)) M (fun j => I (5 + 2 + j)) n).1 (hsS (fun q => I (rowN s + 1) (a + q)) M (fun j => I (5 + 2 + j)) n).2.1 ∧ L' = L ∧ R' = R0 q))) n ?_ ?_
    · intro J o8 o9 o10 hi
      have hrb := rw_b hrs
      have jr : J (rowN s) = I (rowN s) := hi.1 _ (by omega)
      have jr1 : J (rowN s + 1) = I (rowN s + 1) := hi.1 _ (by omega)
      refine s_iload (tb_ok aX7_houses_1 7 rfl) rfl ?_
      refine s_iload (tb_ok aX7_houses_1 8 rfl) rfl ?_
      refine s_icmp_ge (tgt := 148) (tb_ok aX7_houses_1 9 rfl) (by decide) (fun c66 => ?_) (fun c66 => ?_)
      · refine s_iload (tb_ok aX7_houses_3 1 rfl) rfl ?_
        refine s_iret (tb_ok aX7_houses_3 2 rfl) rfl ?_
        exact ⟨rfl, rfl, hi, rfl, rfl⟩
      · simp (disch := omega) only [nI_ltI, nI_leI, nI_eq] at c66
        omega
    · intro k hk ih J o8 o9 o10 hi
      have hrb := rw_b hrs
      have jr : J (rowN s) = I (rowN s) := hi.1 _ (by omega)
      have jr1 : J (rowN s + 1) = I (rowN s + 1) := hi.1 _ (by omega)
      by_cases hM4 : (hsS (fun q => I (rowN s + 1) (a + q)) M (fun j => I (5 + 2 + j)) k).1 < 5
      · refine s_iload (tb_ok aX7_houses_1 7 rfl) rfl ?_
        refine s_iload (tb_ok aX7_houses_1 8 rfl) rfl ?_
        refine s_icmp_ge (tgt := 148) (tb_ok aX7_houses_1 9 rfl) (by decide) (fun c66 => ?_) (fun c66 => ?_)
        · simp (disch := omega) only [nI_ltI, nI_leI, nI_eq] at c66
          omega
        · refine s_iload_n (tb_ok aX7_houses_1 10 rfl) rfl ?_
          refine s_iconst (v := nI 2) (tb_ok aX7_houses_1 11 rfl) (by decide) ?_
          refine s_iload (tb_ok aX7_houses_1 12 rfl) rfl ?_
          refine s_imul (tb_ok aX7_houses_1 13 rfl) ?_
          refine s_topi (z := (nI (2 * k))) (nI_mul 2 k) ?_
          refine s_iadd (tb_ok aX7_houses_1 14 rfl) ?_
          refine s_topi (z := (nI (a + 2 * k))) (nI_add' a (2 * k)) ?_
          refine s_istore (ls' := [some (.ref 0), some (.int (nI s)), some (.int so), some (.int (nI a)), some (.int (nI n)), some (.ref (rowN s)), some (.int (nI (hsS (fun q => I (rowN s + 1) (a + q)) M (fun j => I (5 + 2 + j)) k).2.2)), some (.int (nI k)), some (.int (nI (a + 2 * k))), o9, o10]) (tb_ok aX7_houses_1 15 rfl) rfl rfl ?_
          refine s_aload (tb_ok aX7_houses_1 16 rfl) rfl ?_
          refine s_iload (tb_ok aX7_houses_1 17 rfl) rfl ?_
          refine s_iconst (v := 2) (tb_ok aX7_houses_1 18 rfl) (by decide) ?_
          refine s_cVp (as := [.int (nI (a + 2 * k)), .int (2)]) (tb_ok aX7_houses_1 19 rfl) v_RX7_317 (E_RhasAll (row0 q hrs) _ _) (by decide) (row0 q hrs).1 rfl rfl rfl rfl (Nat.le_of_ble_eq_true rfl) (by decide) ?_
          rw [jr, hz]
          refine s_topi (bI_t (hasA_yes (by omega) hz40)) ?_
          refine s_if_ne (tgt := 91) (tb_ok aX7_houses_1 20 rfl) (by decide) (fun c85 => ?_) (fun c85 => ?_)
          · refine s_aload (tb_ok aX7_houses_1 23 rfl) rfl ?_
            refine s_getR (r := (rowN s + 1)) (tb_ok aX7_houses_2 0 rfl) f_RX7_320 (row0 q hrs).1 rfl (row0 q hrs).2.1 ?_
            refine s_iload (tb_ok aX7_houses_2 1 rfl) rfl ?_
            refine s_ialdX (x := (I (rowN s + 1) (a + 2 * k))) (tb_ok aX7_houses_2 2 rfl) (row0 q hrs).2.2 (by omega) (by decide) (by rw [jr1]) ?_
            refine s_name (fun x1 ex1 => ?_)
            refine s_istore (ls' := [some (.ref 0), some (.int (nI s)), some (.int so), some (.int (nI a)), some (.int (nI n)), some (.ref (rowN s)), some (.int (nI (hsS (fun q => I (rowN s + 1) (a + q)) M (fun j => I (5 + 2 + j)) k).2.2)), some (.int (nI k)), some (.int (nI (a + 2 * k))), some (.int x1), o10]) (tb_ok aX7_houses_2 3 rfl) rfl rfl ?_
            refine s_aload (tb_ok aX7_houses_2 4 rfl) rfl ?_
            refine s_getR (r := (rowN s + 1)) (tb_ok aX7_houses_2 5 rfl) f_RX7_320 (row0 q hrs).1 rfl (row0 q hrs).2.1 ?_
            refine s_iload (tb_ok aX7_houses_2 6 rfl) rfl ?_
            refine s_iconst (v := nI 1) (tb_ok aX7_houses_2 7 rfl) (by decide) ?_
            refine s_iadd (tb_ok aX7_houses_2 8 rfl) ?_
            refine s_topi (z := (nI (a + 2 * k + 1))) (nI_add' (a + 2 * k) 1) ?_
            refine s_ialdX (x := (I (rowN s + 1) (a + (2 * k + 1)))) (tb_ok aX7_houses_2 9 rfl) (row0 q hrs).2.2 (by omega) (by decide) (by rw [jr1]; rfl) ?_
            refine s_name (fun x2 ex2 => ?_)
            refine s_istore (ls' := [some (.ref 0), some (.int (nI s)), some (.int so), some (.int (nI a)), some (.int (nI n)), some (.ref (rowN s)), some (.int (nI (hsS (fun q => I (rowN s + 1) (a + q)) M (fun j => I (5 + 2 + j)) k).2.2)), some (.int (nI k)), some (.int (nI (a + 2 * k))), some (.int x1), some (.int x2)]) (tb_ok aX7_houses_2 10 rfl) rfl rfl ?_
            refine s_iload (tb_ok aX7_houses_2 11 rfl) rfl ?_
            refine s_iload (tb_ok aX7_houses_2 12 rfl) rfl ?_
            refine s_cSp (as := [.int x1, .int x2]) (tb_ok aX7_houses_2 13 rfl) v_RX7_134 (E_isHouse _ _) (by decide) rfl rfl (Nat.le_of_ble_eq_true rfl) ?_
            refine s_if_eq (tgt := 142) (tb_ok aX7_houses_2 14 rfl) (by decide) (fun c120 => ?_) (fun c120 => ?_)
            · refine s_iinc (v := nI (k + 1)) (ls' := [some (.ref 0), some (.int (nI s)), some (.int so), some (.int (nI a)), some (.int (nI n)), some (.ref (rowN s)), some (.int (nI (hsS (fun q => I (rowN s + 1) (a + q)) M (fun j => I (5 + 2 + j)) k).2.2)), some (.int (nI (k + 1))), some (.int (nI (a + 2 * k))), some (.int x1), some (.int x2)]) (tb_ok aX7_houses_2 23 rfl) rfl (nI_1 _) rfl rfl ?_
              refine s_goto (tgt := 62) (tb_ok aX7_houses_3 0 rfl) (by decide) ?_
              have ev9 : x1 = I (rowN s + 1) (a + 2 * k) := ex1
              have ev10 : x2 = I (rowN s + 1) (a + (2 * k + 1)) := ex2
              have e_ : (hsS (fun q => I (rowN s + 1) (a + q)) M (fun j => I (5 + 2 + j)) (k + 1)) = (hsS (fun q => I (rowN s + 1) (a + q)) M (fun j => I (5 + 2 + j)) k) := if_neg (fun h_ => bI_0.mp c120 (by have h2_ := hok_6.mp h_.1; rw [ev9, ev10]; exact h2_))
              refine s_ls ?_ (ih _ (some (.int (nI (a + 2 * k)))) (some (.int x1)) (some (.int x2)) ?_)
              · simp only [e_]
              · rw [e_]; exact hi
            · refine s_aload_n (tb_ok aX7_houses_2 15 rfl) rfl ?_
              refine s_getR (r := 5) (tb_ok aX7_houses_2 16 rfl) f_RX7_19 rfl rfl rfl ?_
              refine s_iload (tb_ok aX7_houses_2 17 rfl) rfl ?_
              refine s_iload (tb_ok aX7_houses_2 18 rfl) rfl ?_
              refine s_cV (as := [.int x1, .int x2]) (tb_ok aX7_houses_2 19 rfl) v_RX7_138 (E_Oadd (orch5 q) hi.2.1 hM4 _ _) (by decide) rfl rfl rfl rfl rfl (Nat.le_of_ble_eq_true rfl) (by decide) (fun r1 S1 I1 L1 R1 q1 => ?_)
              obtain ⟨rfl, rfl, rfl, rfl, rfl⟩ := q1
              refine s_bipush (v := -4) (tb_ok aX7_houses_2 20 rfl) (by decide) ?_
              refine s_icmp_eq (tgt := 142) (tb_ok aX7_houses_2 21 rfl) (by decide) (fun c136 => ?_) (fun c136 => ?_)
              · exact absurd c136 (nI_m4 (by omega))
              · refine s_iinc (v := nI ((hsS (fun q => I (rowN s + 1) (a + q)) M (fun j => I (5 + 2 + j)) k).2.2 + 1)) (ls' := [some (.ref 0), some (.int (nI s)), some (.int so), some (.int (nI a)), some (.int (nI n)), some (.ref (rowN s)), some (.int (nI ((hsS (fun q => I (rowN s + 1) (a + q)) M (fun j => I (5 + 2 + j)) k).2.2 + 1))), some (.int (nI k)), some (.int (nI (a + 2 * k))), some (.int x1), some (.int x2)]) (tb_ok aX7_houses_2 22 rfl) rfl (nI_1 _) rfl rfl ?_
                refine s_iinc (v := nI (k + 1)) (ls' := [some (.ref 0), some (.int (nI s)), some (.int so), some (.int (nI a)), some (.int (nI n)), some (.ref (rowN s)), some (.int (nI ((hsS (fun q => I (rowN s + 1) (a + q)) M (fun j => I (5 + 2 + j)) k).2.2 + 1))), some (.int (nI (k + 1))), some (.int (nI (a + 2 * k))), some (.int x1), some (.int x2)]) (tb_ok aX7_houses_2 23 rfl) rfl (nI_1 _) rfl rfl ?_
                refine s_goto (tgt := 62) (tb_ok aX7_houses_3 0 rfl) (by decide) ?_
                have ev9 : x1 = I (rowN s + 1) (a + 2 * k) := ex1
                have ev10 : x2 = I (rowN s + 1) (a + (2 * k + 1)) := ex2
                have e_ : (hsS (fun q => I (rowN s + 1) (a + q)) M (fun j => I (5 + 2 + j)) (k + 1)) = ((hsS (fun q => I (rowN s + 1) (a + q)) M (fun j => I (5 + 2 + j)) k).1 + 1, uT (hsS (fun q => I (rowN s + 1) (a + q)) M (fun j => I (5 + 2 + j)) k).2.1 (hsS (fun q => I (rowN s + 1) (a + q)) M (fun j => I (5 + 2 + j)) k).1 (mkT ((fun q => I (rowN s + 1) (a + q)) (2 * k)) ((fun q => I (rowN s + 1) (a + q)) (2 * k + 1)) 0 50 0), (hsS (fun q => I (rowN s + 1) (a + q)) M (fun j => I (5 + 2 + j)) k).2.2 + 1) := if_pos ⟨hok_6.mpr (by have h_ := bI_n c120; rw [ev9, ev10] at h_; exact h_), hM4⟩
                refine s_ls ?_ (ih _ (some (.int (nI (a + 2 * k)))) (some (.int x1)) (some (.int x2)) ?_)
                · simp only [e_]
                · rw [e_]
                  have hadd := hi.add hM4 x1 x2
                  rw [ev9, ev10] at hadd ⊢
                  exact hadd
          · exact absurd c85 (by decide)
      · have h5 : (hsS (fun q => I (rowN s + 1) (a + q)) M (fun j => I (5 + 2 + j)) k).1 = 5 := by have := hi.2.2.2.1; omega
        refine s_iload (tb_ok aX7_houses_1 7 rfl) rfl ?_
        refine s_iload (tb_ok aX7_houses_1 8 rfl) rfl ?_
        refine s_icmp_ge (tgt := 148) (tb_ok aX7_houses_1 9 rfl) (by decide) (fun c66 => ?_) (fun c66 => ?_)
        · simp (disch := omega) only [nI_ltI, nI_leI, nI_eq] at c66
          omega
        · refine s_iload_n (tb_ok aX7_houses_1 10 rfl) rfl ?_
          refine s_iconst (v := nI 2) (tb_ok aX7_houses_1 11 rfl) (by decide) ?_
          refine s_iload (tb_ok aX7_houses_1 12 rfl) rfl ?_
          refine s_imul (tb_ok aX7_houses_1 13 rfl) ?_
          refine s_topi (z := (nI (2 * k))) (nI_mul 2 k) ?_
          refine s_iadd (tb_ok aX7_houses_1 14 rfl) ?_
          refine s_topi (z := (nI (a + 2 * k))) (nI_add' a (2 * k)) ?_
          refine s_istore (ls' := [some (.ref 0), some (.int (nI s)), some (.int so), some (.int (nI a)), some (.int (nI n)), some (.ref (rowN s)), some (.int (nI (hsS (fun q => I (rowN s + 1) (a + q)) M (fun j => I (5 + 2 + j)) k).2.2)), some (.int (nI k)), some (.int (nI (a + 2 * k))), o9, o10]) (tb_ok aX7_houses_1 15 rfl) rfl rfl ?_
          refine s_aload (tb_ok aX7_houses_1 16 rfl) rfl ?_
          refine s_iload (tb_ok aX7_houses_1 17 rfl) rfl ?_
          refine s_iconst (v := 2) (tb_ok aX7_houses_1 18 rfl) (by decide) ?_
          refine s_cVp (as := [.int (nI (a + 2 * k)), .int (2)]) (tb_ok aX7_houses_1 19 rfl) v_RX7_317 (E_RhasAll (row0 q hrs) _ _) (by decide) (row0 q hrs).1 rfl rfl rfl rfl (Nat.le_of_ble_eq_true rfl) (by decide) ?_
          rw [jr, hz]
          refine s_topi (bI_t (hasA_yes (by omega) hz40)) ?_
          refine s_if_ne (tgt := 91) (tb_ok aX7_houses_1 20 rfl) (by decide) (fun c85 => ?_) (fun c85 => ?_)
          · refine s_aload (tb_ok aX7_houses_1 23 rfl) rfl ?_
            refine s_getR (r := (rowN s + 1)) (tb_ok aX7_houses_2 0 rfl) f_RX7_320 (row0 q hrs).1 rfl (row0 q hrs).2.1 ?_
            refine s_iload (tb_ok aX7_houses_2 1 rfl) rfl ?_
            refine s_ialdX (x := (I (rowN s + 1) (a + 2 * k))) (tb_ok aX7_houses_2 2 rfl) (row0 q hrs).2.2 (by omega) (by decide) (by rw [jr1]) ?_
            refine s_name (fun x1 ex1 => ?_)
            refine s_istore (ls' := [some (.ref 0), some (.int (nI s)), some (.int so), some (.int (nI a)), some (.int (nI n)), some (.ref (rowN s)), some (.int (nI (hsS (fun q => I (rowN s + 1) (a + q)) M (fun j => I (5 + 2 + j)) k).2.2)), some (.int (nI k)), some (.int (nI (a + 2 * k))), some (.int x1), o10]) (tb_ok aX7_houses_2 3 rfl) rfl rfl ?_
            refine s_aload (tb_ok aX7_houses_2 4 rfl) rfl ?_
            refine s_getR (r := (rowN s + 1)) (tb_ok aX7_houses_2 5 rfl) f_RX7_320 (row0 q hrs).1 rfl (row0 q hrs).2.1 ?_
            refine s_iload (tb_ok aX7_houses_2 6 rfl) rfl ?_
            refine s_iconst (v := nI 1) (tb_ok aX7_houses_2 7 rfl) (by decide) ?_
            refine s_iadd (tb_ok aX7_houses_2 8 rfl) ?_
            refine s_topi (z := (nI (a + 2 * k + 1))) (nI_add' (a + 2 * k) 1) ?_
            refine s_ialdX (x := (I (rowN s + 1) (a + (2 * k + 1)))) (tb_ok aX7_houses_2 9 rfl) (row0 q hrs).2.2 (by omega) (by decide) (by rw [jr1]; rfl) ?_
            refine s_name (fun x2 ex2 => ?_)
            refine s_istore (ls' := [some (.ref 0), some (.int (nI s)), some (.int so), some (.int (nI a)), some (.int (nI n)), some (.ref (rowN s)), some (.int (nI (hsS (fun q => I (rowN s + 1) (a + q)) M (fun j => I (5 + 2 + j)) k).2.2)), some (.int (nI k)), some (.int (nI (a + 2 * k))), some (.int x1), some (.int x2)]) (tb_ok aX7_houses_2 10 rfl) rfl rfl ?_
            refine s_iload (tb_ok aX7_houses_2 11 rfl) rfl ?_
            refine s_iload (tb_ok aX7_houses_2 12 rfl) rfl ?_
            refine s_cSp (as := [.int x1, .int x2]) (tb_ok aX7_houses_2 13 rfl) v_RX7_134 (E_isHouse _ _) (by decide) rfl rfl (Nat.le_of_ble_eq_true rfl) ?_
            refine s_if_eq (tgt := 142) (tb_ok aX7_houses_2 14 rfl) (by decide) (fun c120 => ?_) (fun c120 => ?_)
            · refine s_iinc (v := nI (k + 1)) (ls' := [some (.ref 0), some (.int (nI s)), some (.int so), some (.int (nI a)), some (.int (nI n)), some (.ref (rowN s)), some (.int (nI (hsS (fun q => I (rowN s + 1) (a + q)) M (fun j => I (5 + 2 + j)) k).2.2)), some (.int (nI (k + 1))), some (.int (nI (a + 2 * k))), some (.int x1), some (.int x2)]) (tb_ok aX7_houses_2 23 rfl) rfl (nI_1 _) rfl rfl ?_
              refine s_goto (tgt := 62) (tb_ok aX7_houses_3 0 rfl) (by decide) ?_
              have ev9 : x1 = I (rowN s + 1) (a + 2 * k) := ex1
              have ev10 : x2 = I (rowN s + 1) (a + (2 * k + 1)) := ex2
              have e_ : (hsS (fun q => I (rowN s + 1) (a + q)) M (fun j => I (5 + 2 + j)) (k + 1)) = (hsS (fun q => I (rowN s + 1) (a + q)) M (fun j => I (5 + 2 + j)) k) := if_neg (fun h_ => bI_0.mp c120 (by have h2_ := hok_6.mp h_.1; rw [ev9, ev10]; exact h2_))
              refine s_ls ?_ (ih _ (some (.int (nI (a + 2 * k)))) (some (.int x1)) (some (.int x2)) ?_)
              · simp only [e_]
              · rw [e_]; exact hi
            · refine s_aload_n (tb_ok aX7_houses_2 15 rfl) rfl ?_
              refine s_getR (r := 5) (tb_ok aX7_houses_2 16 rfl) f_RX7_19 rfl rfl rfl ?_
              refine s_iload (tb_ok aX7_houses_2 17 rfl) rfl ?_
              refine s_iload (tb_ok aX7_houses_2 18 rfl) rfl ?_
              refine s_cVp (as := [.int x1, .int x2]) (tb_ok aX7_houses_2 19 rfl) v_RX7_138 (E_OaddF (orch5 q) (by rw [hi.2.1, h5]) _ _) (by decide) rfl rfl rfl rfl rfl (Nat.le_of_ble_eq_true rfl) (by decide) ?_
              refine s_bipush (v := -4) (tb_ok aX7_houses_2 20 rfl) (by decide) ?_
              refine s_icmp_eq (tgt := 142) (tb_ok aX7_houses_2 21 rfl) (by decide) (fun c136 => ?_) (fun c136 => ?_)
              · refine s_iinc (v := nI (k + 1)) (ls' := [some (.ref 0), some (.int (nI s)), some (.int so), some (.int (nI a)), some (.int (nI n)), some (.ref (rowN s)), some (.int (nI (hsS (fun q => I (rowN s + 1) (a + q)) M (fun j => I (5 + 2 + j)) k).2.2)), some (.int (nI (k + 1))), some (.int (nI (a + 2 * k))), some (.int x1), some (.int x2)]) (tb_ok aX7_houses_2 23 rfl) rfl (nI_1 _) rfl rfl ?_
                refine s_goto (tgt := 62) (tb_ok aX7_houses_3 0 rfl) (by decide) ?_
                have ev9 : x1 = I (rowN s + 1) (a + 2 * k) := ex1
                have ev10 : x2 = I (rowN s + 1) (a + (2 * k + 1)) := ex2
                have e_ : (hsS (fun q => I (rowN s + 1) (a + q)) M (fun j => I (5 + 2 + j)) (k + 1)) = (hsS (fun q => I (rowN s + 1) (a + q)) M (fun j => I (5 + 2 + j)) k) := if_neg (fun h_ => hM4 h_.2)
                refine s_ls ?_ (ih _ (some (.int (nI (a + 2 * k)))) (some (.int x1)) (some (.int x2)) ?_)
                · simp only [e_]
                · rw [e_]; exact hi
              · exact absurd rfl c136
          · exact absurd c85 (by decide)
  refine ev_of (by decide +kernel) rfl ?_
  show SW X _ _ _ 0 [some (.ref 0), some (.int (nI s)), some (.int so), some (.int (nI a)), some (.int (nI n)), none, none, none, none, none, none] [] S0 I L (R0 q) _
  refine s_aload_n (tb_ok aX7_houses_0 0 rfl) rfl ?_
  refine s_iload_n (tb_ok aX7_houses_0 1 rfl) rfl ?_
  refine s_cVp (as := [.int (nI s)]) (tb_ok aX7_houses_0 2 rfl) v_RX7_248 (E_rowAt hrs) (by decide) rfl rfl rfl rfl rfl (Nat.le_of_ble_eq_true rfl) (by decide) ?_
  refine s_astore (ls' := [some (.ref 0), some (.int (nI s)), some (.int so), some (.int (nI a)), some (.int (nI n)), some (.ref (rowN s)), none, none, none, none, none]) (tb_ok aX7_houses_0 3 rfl) rfl rfl ?_
  refine s_aload (tb_ok aX7_houses_0 4 rfl) rfl ?_
  refine s_ifnull (tb_ok aX7_houses_0 5 rfl) ?_
  refine s_iload_n (tb_ok aX7_houses_0 6 rfl) rfl ?_
  refine s_cSp (as := [.int so]) (tb_ok aX7_houses_0 7 rfl) v_RX7_310 (E_isSort _) (by decide) rfl rfl (Nat.le_of_ble_eq_true rfl) ?_
  refine s_topi (bI_t hso) ?_
  refine s_if_eq (tgt := 30) (tb_ok aX7_houses_0 8 rfl) (by decide) (fun c16 => ?_) (fun c16 => ?_)
  · exact absurd c16 (by decide)
  · refine s_iload (tb_ok aX7_houses_0 9 rfl) rfl ?_
    refine s_if_lt (tgt := 30) (tb_ok aX7_houses_0 10 rfl) (by decide) (fun c21 => ?_) (fun c21 => ?_)
    · exact absurd c21 (nI_pos (by omega))
    · refine s_iload (tb_ok aX7_houses_0 11 rfl) rfl ?_
      refine s_iconst (v := nI 5) (tb_ok aX7_houses_0 12 rfl) (by decide) ?_
      refine s_icmp_le (tgt := 33) (tb_ok aX7_houses_0 13 rfl) (by decide) (fun c27 => ?_) (fun c27 => ?_)
      · refine s_aload (tb_ok aX7_houses_0 16 rfl) rfl ?_
        refine s_cVp (as := []) (tb_ok aX7_houses_0 17 rfl) v_RX7_252 (E_isMissing (row0 q hrs)) (by decide) (row0 q hrs).1 rfl rfl rfl rfl (Nat.le_of_ble_eq_true rfl) (by decide) ?_
        refine s_topi (bI_f (show ¬ I (rowN s) 1 = -1 from hnm)) ?_
        refine s_if_eq (tgt := 44) (tb_ok aX7_houses_0 18 rfl) (by decide) (fun c38 => ?_) (fun c38 => ?_)
        · refine s_aload (tb_ok aX7_houses_0 21 rfl) rfl ?_
          refine s_getI (tb_ok aX7_houses_0 22 rfl) f_RX7_314 (row0 q hrs).1 rfl rfl ?_
          refine s_iload_n (tb_ok aX7_houses_0 23 rfl) rfl ?_
          refine s_icmp_eq (tgt := 56) (tb_ok aX7_houses_1 0 rfl) (by decide) (fun c50 => ?_) (fun c50 => ?_)
          · refine s_iconst (v := nI 0) (tb_ok aX7_houses_1 3 rfl) (by decide) ?_
            refine s_istore (ls' := [some (.ref 0), some (.int (nI s)), some (.int so), some (.int (nI a)), some (.int (nI n)), some (.ref (rowN s)), some (.int (nI 0)), none, none, none, none]) (tb_ok aX7_houses_1 4 rfl) rfl rfl ?_
            refine s_iconst (v := nI 0) (tb_ok aX7_houses_1 5 rfl) (by decide) ?_
            refine s_istore (ls' := [some (.ref 0), some (.int (nI s)), some (.int so), some (.int (nI a)), some (.int (nI n)), some (.ref (rowN s)), some (.int (nI 0)), some (.int (nI 0)), none, none, none]) (tb_ok aX7_houses_1 6 rfl) rfl rfl ?_
            exact loop 0 (Nat.zero_le _) _ _ _ _ ⟨fun _ _ => rfl, hM, fun _ _ => rfl, hM5, fun i _ => T5.rf⟩
          · exact absurd hsort c50
        · exact absurd c38 (by decide)
      · exact absurd (nI_s hn (by decide)) c27

set_option maxRecDepth 100000 in
set_option maxHeartbeats 1000000 in
theorem C_housesO {X : En} {I : FI} {L : FL} {q : Nat × Nat} {M : Nat} (hM : I 5 1 = nI M) (hM5 : M ≤ 5) {s z : Nat} (hrs : s < 4) {so : Int32} (hso : ¬ so < 0 ∧ so < 3) (hnm : ¬ I (rowN s) 1 = -1) (hsort : I (rowN s) 1 = so) (hz : I (rowN s) 2 = nI z) (hz40 : z ≤ 40) {a n : Nat} (hn : n ≤ 5) {K : Nat} (hK : K < n) (ha : a < 2 ^ 31) (hfit : 0 < K → a + 2 * K ≤ z) (hout : z < a + 2 * K + 2) : Ev X 9 mX7_houses (0, 0) [.ref 0, .int (nI s), .int so, .int (nI a), .int (nI n)] S0 I L (R0 q) (fun r' S' I' L' R' => r' = some (.int (-12)) ∧ S' = S0 ∧ HsW I I' (hsS (fun q => I (rowN s + 1) (a + q)) M (fun j => I (5 + 2 + j)) K).1 (hsS (fun q => I (rowN s + 1) (a + q)) M (fun j => I (5 + 2 + j)) K).2.1 ∧ L' = L ∧ R' = R0 q) := by
  have loop : ∀ k, k ≤ K → ∀ (J : FI), ∀ (o8 o9 o10 : Option Value), (HsW I J (hsS (fun q => I (rowN s + 1) (a + q)) M (fun j => I (5 + 2 + j)) k).1 (hsS (fun q => I (rowN s + 1) (a + q)) M (fun j => I (5 + 2 + j)) k).2.1) → SW X 9 mX7_houses (0, 0) 62 [some (.ref 0), some (.int (nI s)), some (.int so), some (.int (nI a)), some (.int (nI n)), some (.ref (rowN s)), some (.int (nI (hsS (fun q => I (rowN s + 1) (a + q)) M (fun j => I (5 + 2 + j)) k).2.2)), some (.int (nI k)), o8, o9, o10] [] S0 J L (R0 q) (KQ X (fun r' S' I' L' R' => r' = some (.int (-12)) ∧ S' = S0 ∧ HsW I I' (hsS (fun q => I (rowN s + 1) (a + q)) M (fun j => I (5 + 2 + j)) K).1 (hsS (fun q => I (rowN s + 1) (a + q)) M (fun j => I (5 + 2 + j)) K).2.1 ∧ L' = L ∧ R' = R0 q)) := by
    refine for_up (P := fun k => ∀ (J : FI), ∀ (o8 o9 o10 : Option Value), (HsW I J (hsS (fun q => I (rowN s + 1) (a + q)) M (fun j => I (5 + 2 + j)) k).1 (hsS (fun q => I (rowN s + 1) (a + q)) M (fun j => I (5 + 2 + j)) k).2.1) → SW X 9 mX7_houses (0, 0) 62 [some (.ref 0), some (.int (nI s)), some (.int so), some (.int (nI a)), some (.int (nI n)), some (.ref (rowN s)), some (.int (nI (hsS (fun q => I (rowN s + 1) (a + q)) M (fun j => I (5 + 2 + j)) k).2.2)), some (.int (nI k)), o8, o9, o10] [] S0 J L (R0 q) (KQ X (fun r' S' I' L' R' => r' = some (.int (-12)) ∧ S' = S0 ∧ HsW I I' (hsS (fun q => I (rowN s + 1) (a + q)) M (fun j => I (5 + 2 + j)) K).1 (hsS (fun q => I (rowN s + 1) (a + q)) M (fun j => I (5 + 2 + j)) K).2.1 ∧ L' = L ∧ R' = R0 q))) K ?_ ?_
    · intro J o8 o9 o10 hi
      have hrb := rw_b hrs
      have jr : J (rowN s) = I (rowN s) := hi.1 _ (by omega)
      have jr1 : J (rowN s + 1) = I (rowN s + 1) := hi.1 _ (by omega)
      refine s_iload (tb_ok aX7_houses_1 7 rfl) rfl ?_
      refine s_iload (tb_ok aX7_houses_1 8 rfl) rfl ?_
      refine s_icmp_ge (tgt := 148) (tb_ok aX7_houses_1 9 rfl) (by decide) (fun c66 => ?_) (fun c66 => ?_)
      · simp (disch := omega) only [nI_ltI, nI_leI, nI_eq] at c66
        omega
      · refine s_iload_n (tb_ok aX7_houses_1 10 rfl) rfl ?_
        refine s_iconst (v := nI 2) (tb_ok aX7_houses_1 11 rfl) (by decide) ?_
        refine s_iload (tb_ok aX7_houses_1 12 rfl) rfl ?_
        refine s_imul (tb_ok aX7_houses_1 13 rfl) ?_
        refine s_topi (z := (nI (2 * K))) (nI_mul 2 K) ?_
        refine s_iadd (tb_ok aX7_houses_1 14 rfl) ?_
        refine s_topi (z := (nI (a + 2 * K))) (nI_add' a (2 * K)) ?_
        refine s_istore (ls' := [some (.ref 0), some (.int (nI s)), some (.int so), some (.int (nI a)), some (.int (nI n)), some (.ref (rowN s)), some (.int (nI (hsS (fun q => I (rowN s + 1) (a + q)) M (fun j => I (5 + 2 + j)) K).2.2)), some (.int (nI K)), some (.int (nI (a + 2 * K))), o9, o10]) (tb_ok aX7_houses_1 15 rfl) rfl rfl ?_
        refine s_aload (tb_ok aX7_houses_1 16 rfl) rfl ?_
        refine s_iload (tb_ok aX7_houses_1 17 rfl) rfl ?_
        refine s_iconst (v := 2) (tb_ok aX7_houses_1 18 rfl) (by decide) ?_
        refine s_cVp (as := [.int (nI (a + 2 * K)), .int (2)]) (tb_ok aX7_houses_1 19 rfl) v_RX7_317 (E_RhasAll (row0 q hrs) _ _) (by decide) (row0 q hrs).1 rfl rfl rfl rfl (Nat.le_of_ble_eq_true rfl) (by decide) ?_
        rw [jr, hz]
        refine s_if_ne (tgt := 91) (tb_ok aX7_houses_1 20 rfl) (by decide) (fun c85 => ?_) (fun c85 => ?_)
        · have h85 := bI_n c85
          have h3 := h85.2.2.1
          have e_ : nI a + nI (2 * K) = nI (a + 2 * K) := nI_add' a (2 * K)
          exact absurd h85 (hasA_no ha hz40 (by omega) hout rfl)
        · refine s_bipush (v := -12) (tb_ok aX7_houses_1 21 rfl) (by decide) ?_
          refine s_iret (tb_ok aX7_houses_1 22 rfl) rfl ?_
          exact ⟨rfl, rfl, hi, rfl, rfl⟩
    · intro k hk ih J o8 o9 o10 hi
      have hrb := rw_b hrs
      have jr : J (rowN s) = I (rowN s) := hi.1 _ (by omega)
      have jr1 : J (rowN s + 1) = I (rowN s + 1) := hi.1 _ (by omega)
      by_cases hM4 : (hsS (fun q => I (rowN s + 1) (a + q)) M (fun j => I (5 + 2 + j)) k).1 < 5
      · refine s_iload (tb_ok aX7_houses_1 7 rfl) rfl ?_
        refine s_iload (tb_ok aX7_houses_1 8 rfl) rfl ?_
        refine s_icmp_ge (tgt := 148) (tb_ok aX7_houses_1 9 rfl) (by decide) (fun c66 => ?_) (fun c66 => ?_)
        · simp (disch := omega) only [nI_ltI, nI_leI, nI_eq] at c66
          omega
        · refine s_iload_n (tb_ok aX7_houses_1 10 rfl) rfl ?_
          refine s_iconst (v := nI 2) (tb_ok aX7_houses_1 11 rfl) (by decide) ?_
          refine s_iload (tb_ok aX7_houses_1 12 rfl) rfl ?_
          refine s_imul (tb_ok aX7_houses_1 13 rfl) ?_
          refine s_topi (z := (nI (2 * k))) (nI_mul 2 k) ?_
          refine s_iadd (tb_ok aX7_houses_1 14 rfl) ?_
          refine s_topi (z := (nI (a + 2 * k))) (nI_add' a (2 * k)) ?_
          refine s_istore (ls' := [some (.ref 0), some (.int (nI s)), some (.int so), some (.int (nI a)), some (.int (nI n)), some (.ref (rowN s)), some (.int (nI (hsS (fun q => I (rowN s + 1) (a + q)) M (fun j => I (5 + 2 + j)) k).2.2)), some (.int (nI k)), some (.int (nI (a + 2 * k))), o9, o10]) (tb_ok aX7_houses_1 15 rfl) rfl rfl ?_
          refine s_aload (tb_ok aX7_houses_1 16 rfl) rfl ?_
          refine s_iload (tb_ok aX7_houses_1 17 rfl) rfl ?_
          refine s_iconst (v := 2) (tb_ok aX7_houses_1 18 rfl) (by decide) ?_
          refine s_cVp (as := [.int (nI (a + 2 * k)), .int (2)]) (tb_ok aX7_houses_1 19 rfl) v_RX7_317 (E_RhasAll (row0 q hrs) _ _) (by decide) (row0 q hrs).1 rfl rfl rfl rfl (Nat.le_of_ble_eq_true rfl) (by decide) ?_
          rw [jr, hz]
          refine s_topi (bI_t (hasA_yes (by omega) hz40)) ?_
          refine s_if_ne (tgt := 91) (tb_ok aX7_houses_1 20 rfl) (by decide) (fun c85 => ?_) (fun c85 => ?_)
          · refine s_aload (tb_ok aX7_houses_1 23 rfl) rfl ?_
            refine s_getR (r := (rowN s + 1)) (tb_ok aX7_houses_2 0 rfl) f_RX7_320 (row0 q hrs).1 rfl (row0 q hrs).2.1 ?_
            refine s_iload (tb_ok aX7_houses_2 1 rfl) rfl ?_
            refine s_ialdX (x := (I (rowN s + 1) (a + 2 * k))) (tb_ok aX7_houses_2 2 rfl) (row0 q hrs).2.2 (by omega) (by decide) (by rw [jr1]) ?_
            refine s_name (fun x1 ex1 => ?_)
            refine s_istore (ls' := [some (.ref 0), some (.int (nI s)), some (.int so), some (.int (nI a)), some (.int (nI n)), some (.ref (rowN s)), some (.int (nI (hsS (fun q => I (rowN s + 1) (a + q)) M (fun j => I (5 + 2 + j)) k).2.2)), some (.int (nI k)), some (.int (nI (a + 2 * k))), some (.int x1), o10]) (tb_ok aX7_houses_2 3 rfl) rfl rfl ?_
            refine s_aload (tb_ok aX7_houses_2 4 rfl) rfl ?_
            refine s_getR (r := (rowN s + 1)) (tb_ok aX7_houses_2 5 rfl) f_RX7_320 (row0 q hrs).1 rfl (row0 q hrs).2.1 ?_
            refine s_iload (tb_ok aX7_houses_2 6 rfl) rfl ?_
            refine s_iconst (v := nI 1) (tb_ok aX7_houses_2 7 rfl) (by decide) ?_
            refine s_iadd (tb_ok aX7_houses_2 8 rfl) ?_
            refine s_topi (z := (nI (a + 2 * k + 1))) (nI_add' (a + 2 * k) 1) ?_
            refine s_ialdX (x := (I (rowN s + 1) (a + (2 * k + 1)))) (tb_ok aX7_houses_2 9 rfl) (row0 q hrs).2.2 (by omega) (by decide) (by rw [jr1]; rfl) ?_
            refine s_name (fun x2 ex2 => ?_)
            refine s_istore (ls' := [some (.ref 0), some (.int (nI s)), some (.int so), some (.int (nI a)), some (.int (nI n)), some (.ref (rowN s)), some (.int (nI (hsS (fun q => I (rowN s + 1) (a + q)) M (fun j => I (5 + 2 + j)) k).2.2)), some (.int (nI k)), some (.int (nI (a + 2 * k))), some (.int x1), some (.int x2)]) (tb_ok aX7_houses_2 10 rfl) rfl rfl ?_
            refine s_iload (tb_ok aX7_houses_2 11 rfl) rfl ?_
            refine s_iload (tb_ok aX7_houses_2 12 rfl) rfl ?_
            refine s_cSp (as := [.int x1, .int x2]) (tb_ok aX7_houses_2 13 rfl) v_RX7_134 (E_isHouse _ _) (by decide) rfl rfl (Nat.le_of_ble_eq_true rfl) ?_
            refine s_if_eq (tgt := 142) (tb_ok aX7_houses_2 14 rfl) (by decide) (fun c120 => ?_) (fun c120 => ?_)
            · refine s_iinc (v := nI (k + 1)) (ls' := [some (.ref 0), some (.int (nI s)), some (.int so), some (.int (nI a)), some (.int (nI n)), some (.ref (rowN s)), some (.int (nI (hsS (fun q => I (rowN s + 1) (a + q)) M (fun j => I (5 + 2 + j)) k).2.2)), some (.int (nI (k + 1))), some (.int (nI (a + 2 * k))), some (.int x1), some (.int x2)]) (tb_ok aX7_houses_2 23 rfl) rfl (nI_1 _) rfl rfl ?_
              refine s_goto (tgt := 62) (tb_ok aX7_houses_3 0 rfl) (by decide) ?_
              have ev9 : x1 = I (rowN s + 1) (a + 2 * k) := ex1
              have ev10 : x2 = I (rowN s + 1) (a + (2 * k + 1)) := ex2
              have e_ : (hsS (fun q => I (rowN s + 1) (a + q)) M (fun j => I (5 + 2 + j)) (k + 1)) = (hsS (fun q => I (rowN s + 1) (a + q)) M (fun j => I (5 + 2 + j)) k) := if_neg (fun h_ => bI_0.mp c120 (by have h2_ := hok_6.mp h_.1; rw [ev9, ev10]; exact h2_))
              refine s_ls ?_ (ih _ (some (.int (nI (a + 2 * k)))) (some (.int x1)) (some (.int x2)) ?_)
              · simp only [e_]
              · rw [e_]; exact hi
            · refine s_aload_n (tb_ok aX7_houses_2 15 rfl) rfl ?_
              refine s_getR (r := 5) (tb_ok aX7_houses_2 16 rfl) f_RX7_19 rfl rfl rfl ?_
              refine s_iload (tb_ok aX7_houses_2 17 rfl) rfl ?_
              refine s_iload (tb_ok aX7_houses_2 18 rfl) rfl ?_
              refine s_cV (as := [.int x1, .int x2]) (tb_ok aX7_houses_2 19 rfl) v_RX7_138 (E_Oadd (orch5 q) hi.2.1 hM4 _ _) (by decide) rfl rfl rfl rfl rfl (Nat.le_of_ble_eq_true rfl) (by decide) (fun r1 S1 I1 L1 R1 q1 => ?_)
              obtain ⟨rfl, rfl, rfl, rfl, rfl⟩ := q1
              refine s_bipush (v := -4) (tb_ok aX7_houses_2 20 rfl) (by decide) ?_
              refine s_icmp_eq (tgt := 142) (tb_ok aX7_houses_2 21 rfl) (by decide) (fun c136 => ?_) (fun c136 => ?_)
              · exact absurd c136 (nI_m4 (by omega))
              · refine s_iinc (v := nI ((hsS (fun q => I (rowN s + 1) (a + q)) M (fun j => I (5 + 2 + j)) k).2.2 + 1)) (ls' := [some (.ref 0), some (.int (nI s)), some (.int so), some (.int (nI a)), some (.int (nI n)), some (.ref (rowN s)), some (.int (nI ((hsS (fun q => I (rowN s + 1) (a + q)) M (fun j => I (5 + 2 + j)) k).2.2 + 1))), some (.int (nI k)), some (.int (nI (a + 2 * k))), some (.int x1), some (.int x2)]) (tb_ok aX7_houses_2 22 rfl) rfl (nI_1 _) rfl rfl ?_
                refine s_iinc (v := nI (k + 1)) (ls' := [some (.ref 0), some (.int (nI s)), some (.int so), some (.int (nI a)), some (.int (nI n)), some (.ref (rowN s)), some (.int (nI ((hsS (fun q => I (rowN s + 1) (a + q)) M (fun j => I (5 + 2 + j)) k).2.2 + 1))), some (.int (nI (k + 1))), some (.int (nI (a + 2 * k))), some (.int x1), some (.int x2)]) (tb_ok aX7_houses_2 23 rfl) rfl (nI_1 _) rfl rfl ?_
                refine s_goto (tgt := 62) (tb_ok aX7_houses_3 0 rfl) (by decide) ?_
                have ev9 : x1 = I (rowN s + 1) (a + 2 * k) := ex1
                have ev10 : x2 = I (rowN s + 1) (a + (2 * k + 1)) := ex2
                have e_ : (hsS (fun q => I (rowN s + 1) (a + q)) M (fun j => I (5 + 2 + j)) (k + 1)) = ((hsS (fun q => I (rowN s + 1) (a + q)) M (fun j => I (5 + 2 + j)) k).1 + 1, uT (hsS (fun q => I (rowN s + 1) (a + q)) M (fun j => I (5 + 2 + j)) k).2.1 (hsS (fun q => I (rowN s + 1) (a + q)) M (fun j => I (5 + 2 + j)) k).1 (mkT ((fun q => I (rowN s + 1) (a + q)) (2 * k)) ((fun q => I (rowN s + 1) (a + q)) (2 * k + 1)) 0 50 0), (hsS (fun q => I (rowN s + 1) (a + q)) M (fun j => I (5 + 2 + j)) k).2.2 + 1) := if_pos ⟨hok_6.mpr (by have h_ := bI_n c120; rw [ev9, ev10] at h_; exact h_), hM4⟩
                refine s_ls ?_ (ih _ (some (.int (nI (a + 2 * k)))) (some (.int x1)) (some (.int x2)) ?_)
                · simp only [e_]
                · rw [e_]
                  have hadd := hi.add hM4 x1 x2
                  rw [ev9, ev10] at hadd ⊢
                  exact hadd
          · exact absurd c85 (by decide)
      · have h5 : (hsS (fun q => I (rowN s + 1) (a + q)) M (fun j => I (5 + 2 + j)) k).1 = 5 := by have := hi.2.2.2.1; omega
        refine s_iload (tb_ok aX7_houses_1 7 rfl) rfl ?_
        refine s_iload (tb_ok aX7_houses_1 8 rfl) rfl ?_
        refine s_icmp_ge (tgt := 148) (tb_ok aX7_houses_1 9 rfl) (by decide) (fun c66 => ?_) (fun c66 => ?_)
        · simp (disch := omega) only [nI_ltI, nI_leI, nI_eq] at c66
          omega
        · refine s_iload_n (tb_ok aX7_houses_1 10 rfl) rfl ?_
          refine s_iconst (v := nI 2) (tb_ok aX7_houses_1 11 rfl) (by decide) ?_
          refine s_iload (tb_ok aX7_houses_1 12 rfl) rfl ?_
          refine s_imul (tb_ok aX7_houses_1 13 rfl) ?_
          refine s_topi (z := (nI (2 * k))) (nI_mul 2 k) ?_
          refine s_iadd (tb_ok aX7_houses_1 14 rfl) ?_
          refine s_topi (z := (nI (a + 2 * k))) (nI_add' a (2 * k)) ?_
          refine s_istore (ls' := [some (.ref 0), some (.int (nI s)), some (.int so), some (.int (nI a)), some (.int (nI n)), some (.ref (rowN s)), some (.int (nI (hsS (fun q => I (rowN s + 1) (a + q)) M (fun j => I (5 + 2 + j)) k).2.2)), some (.int (nI k)), some (.int (nI (a + 2 * k))), o9, o10]) (tb_ok aX7_houses_1 15 rfl) rfl rfl ?_
          refine s_aload (tb_ok aX7_houses_1 16 rfl) rfl ?_
          refine s_iload (tb_ok aX7_houses_1 17 rfl) rfl ?_
          refine s_iconst (v := 2) (tb_ok aX7_houses_1 18 rfl) (by decide) ?_
          refine s_cVp (as := [.int (nI (a + 2 * k)), .int (2)]) (tb_ok aX7_houses_1 19 rfl) v_RX7_317 (E_RhasAll (row0 q hrs) _ _) (by decide) (row0 q hrs).1 rfl rfl rfl rfl (Nat.le_of_ble_eq_true rfl) (by decide) ?_
          rw [jr, hz]
          refine s_topi (bI_t (hasA_yes (by omega) hz40)) ?_
          refine s_if_ne (tgt := 91) (tb_ok aX7_houses_1 20 rfl) (by decide) (fun c85 => ?_) (fun c85 => ?_)
          · refine s_aload (tb_ok aX7_houses_1 23 rfl) rfl ?_
            refine s_getR (r := (rowN s + 1)) (tb_ok aX7_houses_2 0 rfl) f_RX7_320 (row0 q hrs).1 rfl (row0 q hrs).2.1 ?_
            refine s_iload (tb_ok aX7_houses_2 1 rfl) rfl ?_
            refine s_ialdX (x := (I (rowN s + 1) (a + 2 * k))) (tb_ok aX7_houses_2 2 rfl) (row0 q hrs).2.2 (by omega) (by decide) (by rw [jr1]) ?_
            refine s_name (fun x1 ex1 => ?_)
            refine s_istore (ls' := [some (.ref 0), some (.int (nI s)), some (.int so), some (.int (nI a)), some (.int (nI n)), some (.ref (rowN s)), some (.int (nI (hsS (fun q => I (rowN s + 1) (a + q)) M (fun j => I (5 + 2 + j)) k).2.2)), some (.int (nI k)), some (.int (nI (a + 2 * k))), some (.int x1), o10]) (tb_ok aX7_houses_2 3 rfl) rfl rfl ?_
            refine s_aload (tb_ok aX7_houses_2 4 rfl) rfl ?_
            refine s_getR (r := (rowN s + 1)) (tb_ok aX7_houses_2 5 rfl) f_RX7_320 (row0 q hrs).1 rfl (row0 q hrs).2.1 ?_
            refine s_iload (tb_ok aX7_houses_2 6 rfl) rfl ?_
            refine s_iconst (v := nI 1) (tb_ok aX7_houses_2 7 rfl) (by decide) ?_
            refine s_iadd (tb_ok aX7_houses_2 8 rfl) ?_
            refine s_topi (z := (nI (a + 2 * k + 1))) (nI_add' (a + 2 * k) 1) ?_
            refine s_ialdX (x := (I (rowN s + 1) (a + (2 * k + 1)))) (tb_ok aX7_houses_2 9 rfl) (row0 q hrs).2.2 (by omega) (by decide) (by rw [jr1]; rfl) ?_
            refine s_name (fun x2 ex2 => ?_)
            refine s_istore (ls' := [some (.ref 0), some (.int (nI s)), some (.int so), some (.int (nI a)), some (.int (nI n)), some (.ref (rowN s)), some (.int (nI (hsS (fun q => I (rowN s + 1) (a + q)) M (fun j => I (5 + 2 + j)) k).2.2)), some (.int (nI k)), some (.int (nI (a + 2 * k))), some (.int x1), some (.int x2)]) (tb_ok aX7_houses_2 10 rfl) rfl rfl ?_
            refine s_iload (tb_ok aX7_houses_2 11 rfl) rfl ?_
            refine s_iload (tb_ok aX7_houses_2 12 rfl) rfl ?_
            refine s_cSp (as := [.int x1, .int x2]) (tb_ok aX7_houses_2 13 rfl) v_RX7_134 (E_isHouse _ _) (by decide) rfl rfl (Nat.le_of_ble_eq_true rfl) ?_
            refine s_if_eq (tgt := 142) (tb_ok aX7_houses_2 14 rfl) (by decide) (fun c120 => ?_) (fun c120 => ?_)
            · refine s_iinc (v := nI (k + 1)) (ls' := [some (.ref 0), some (.int (nI s)), some (.int so), some (.int (nI a)), some (.int (nI n)), some (.ref (rowN s)), some (.int (nI (hsS (fun q => I (rowN s + 1) (a + q)) M (fun j => I (5 + 2 + j)) k).2.2)), some (.int (nI (k + 1))), some (.int (nI (a + 2 * k))), some (.int x1), some (.int x2)]) (tb_ok aX7_houses_2 23 rfl) rfl (nI_1 _) rfl rfl ?_
              refine s_goto (tgt := 62) (tb_ok aX7_houses_3 0 rfl) (by decide) ?_
              have ev9 : x1 = I (rowN s + 1) (a + 2 * k) := ex1
              have ev10 : x2 = I (rowN s + 1) (a + (2 * k + 1)) := ex2
              have e_ : (hsS (fun q => I (rowN s + 1) (a + q)) M (fun j => I (5 + 2 + j)) (k + 1)) = (hsS (fun q => I (rowN s + 1) (a + q)) M (fun j => I (5 + 2 + j)) k) := if_neg (fun h_ => bI_0.mp c120 (by have h2_ := hok_6.mp h_.1; rw [ev9, ev10]; exact h2_))
              refine s_ls ?_ (ih _ (some (.int (nI (a + 2 * k)))) (some (.int x1)) (some (.int x2)) ?_)
              · simp only [e_]
              · rw [e_]; exact hi
            · refine s_aload_n (tb_ok aX7_houses_2 15 rfl) rfl ?_
              refine s_getR (r := 5) (tb_ok aX7_houses_2 16 rfl) f_RX7_19 rfl rfl rfl ?_
              refine s_iload (tb_ok aX7_houses_2 17 rfl) rfl ?_
              refine s_iload (tb_ok aX7_houses_2 18 rfl) rfl ?_
              refine s_cVp (as := [.int x1, .int x2]) (tb_ok aX7_houses_2 19 rfl) v_RX7_138 (E_OaddF (orch5 q) (by rw [hi.2.1, h5]) _ _) (by decide) rfl rfl rfl rfl rfl (Nat.le_of_ble_eq_true rfl) (by decide) ?_
              refine s_bipush (v := -4) (tb_ok aX7_houses_2 20 rfl) (by decide) ?_
              refine s_icmp_eq (tgt := 142) (tb_ok aX7_houses_2 21 rfl) (by decide) (fun c136 => ?_) (fun c136 => ?_)
              · refine s_iinc (v := nI (k + 1)) (ls' := [some (.ref 0), some (.int (nI s)), some (.int so), some (.int (nI a)), some (.int (nI n)), some (.ref (rowN s)), some (.int (nI (hsS (fun q => I (rowN s + 1) (a + q)) M (fun j => I (5 + 2 + j)) k).2.2)), some (.int (nI (k + 1))), some (.int (nI (a + 2 * k))), some (.int x1), some (.int x2)]) (tb_ok aX7_houses_2 23 rfl) rfl (nI_1 _) rfl rfl ?_
                refine s_goto (tgt := 62) (tb_ok aX7_houses_3 0 rfl) (by decide) ?_
                have ev9 : x1 = I (rowN s + 1) (a + 2 * k) := ex1
                have ev10 : x2 = I (rowN s + 1) (a + (2 * k + 1)) := ex2
                have e_ : (hsS (fun q => I (rowN s + 1) (a + q)) M (fun j => I (5 + 2 + j)) (k + 1)) = (hsS (fun q => I (rowN s + 1) (a + q)) M (fun j => I (5 + 2 + j)) k) := if_neg (fun h_ => hM4 h_.2)
                refine s_ls ?_ (ih _ (some (.int (nI (a + 2 * k)))) (some (.int x1)) (some (.int x2)) ?_)
                · simp only [e_]
                · rw [e_]; exact hi
              · exact absurd rfl c136
          · exact absurd c85 (by decide)
  refine ev_of (by decide +kernel) rfl ?_
  show SW X _ _ _ 0 [some (.ref 0), some (.int (nI s)), some (.int so), some (.int (nI a)), some (.int (nI n)), none, none, none, none, none, none] [] S0 I L (R0 q) _
  refine s_aload_n (tb_ok aX7_houses_0 0 rfl) rfl ?_
  refine s_iload_n (tb_ok aX7_houses_0 1 rfl) rfl ?_
  refine s_cVp (as := [.int (nI s)]) (tb_ok aX7_houses_0 2 rfl) v_RX7_248 (E_rowAt hrs) (by decide) rfl rfl rfl rfl rfl (Nat.le_of_ble_eq_true rfl) (by decide) ?_
  refine s_astore (ls' := [some (.ref 0), some (.int (nI s)), some (.int so), some (.int (nI a)), some (.int (nI n)), some (.ref (rowN s)), none, none, none, none, none]) (tb_ok aX7_houses_0 3 rfl) rfl rfl ?_
  refine s_aload (tb_ok aX7_houses_0 4 rfl) rfl ?_
  refine s_ifnull (tb_ok aX7_houses_0 5 rfl) ?_
  refine s_iload_n (tb_ok aX7_houses_0 6 rfl) rfl ?_
  refine s_cSp (as := [.int so]) (tb_ok aX7_houses_0 7 rfl) v_RX7_310 (E_isSort _) (by decide) rfl rfl (Nat.le_of_ble_eq_true rfl) ?_
  refine s_topi (bI_t hso) ?_
  refine s_if_eq (tgt := 30) (tb_ok aX7_houses_0 8 rfl) (by decide) (fun c16 => ?_) (fun c16 => ?_)
  · exact absurd c16 (by decide)
  · refine s_iload (tb_ok aX7_houses_0 9 rfl) rfl ?_
    refine s_if_lt (tgt := 30) (tb_ok aX7_houses_0 10 rfl) (by decide) (fun c21 => ?_) (fun c21 => ?_)
    · exact absurd c21 (nI_pos (by omega))
    · refine s_iload (tb_ok aX7_houses_0 11 rfl) rfl ?_
      refine s_iconst (v := nI 5) (tb_ok aX7_houses_0 12 rfl) (by decide) ?_
      refine s_icmp_le (tgt := 33) (tb_ok aX7_houses_0 13 rfl) (by decide) (fun c27 => ?_) (fun c27 => ?_)
      · refine s_aload (tb_ok aX7_houses_0 16 rfl) rfl ?_
        refine s_cVp (as := []) (tb_ok aX7_houses_0 17 rfl) v_RX7_252 (E_isMissing (row0 q hrs)) (by decide) (row0 q hrs).1 rfl rfl rfl rfl (Nat.le_of_ble_eq_true rfl) (by decide) ?_
        refine s_topi (bI_f (show ¬ I (rowN s) 1 = -1 from hnm)) ?_
        refine s_if_eq (tgt := 44) (tb_ok aX7_houses_0 18 rfl) (by decide) (fun c38 => ?_) (fun c38 => ?_)
        · refine s_aload (tb_ok aX7_houses_0 21 rfl) rfl ?_
          refine s_getI (tb_ok aX7_houses_0 22 rfl) f_RX7_314 (row0 q hrs).1 rfl rfl ?_
          refine s_iload_n (tb_ok aX7_houses_0 23 rfl) rfl ?_
          refine s_icmp_eq (tgt := 56) (tb_ok aX7_houses_1 0 rfl) (by decide) (fun c50 => ?_) (fun c50 => ?_)
          · refine s_iconst (v := nI 0) (tb_ok aX7_houses_1 3 rfl) (by decide) ?_
            refine s_istore (ls' := [some (.ref 0), some (.int (nI s)), some (.int so), some (.int (nI a)), some (.int (nI n)), some (.ref (rowN s)), some (.int (nI 0)), none, none, none, none]) (tb_ok aX7_houses_1 4 rfl) rfl rfl ?_
            refine s_iconst (v := nI 0) (tb_ok aX7_houses_1 5 rfl) (by decide) ?_
            refine s_istore (ls' := [some (.ref 0), some (.int (nI s)), some (.int so), some (.int (nI a)), some (.int (nI n)), some (.ref (rowN s)), some (.int (nI 0)), some (.int (nI 0)), none, none, none]) (tb_ok aX7_houses_1 6 rfl) rfl rfl ?_
            exact loop 0 (Nat.zero_le _) _ _ _ _ ⟨fun _ _ => rfl, hM, fun _ _ => rfl, hM5, fun i _ => T5.rf⟩
          · exact absurd hsort c50
        · exact absurd c38 (by decide)
      · exact absurd (nI_s hn (by decide)) c27

set_option maxRecDepth 100000 in
set_option maxHeartbeats 1000000 in
theorem C_housesX {X : En} {I : FI} {L : FL} {q : Nat × Nat} {x : Int32} (hx : x < 0 ∨ nI 4 ≤ x) {w t v : Int32} : Ev X 9 mX7_houses (0, 0) [.ref 0, .int x, .int w, .int t, .int v] S0 I L (R0 q) (AgLR (some (.int (-2))) (I) L q) := by
  refine ev_of (by decide +kernel) rfl ?_
  show SW X _ _ _ 0 [some (.ref 0), some (.int x), some (.int w), some (.int t), some (.int v), none, none, none, none, none, none] [] S0 I L (R0 q) _
  refine s_aload_n (tb_ok aX7_houses_0 0 rfl) rfl ?_
  refine s_iload_n (tb_ok aX7_houses_0 1 rfl) rfl ?_
  refine s_cVp (as := [.int x]) (tb_ok aX7_houses_0 2 rfl) v_RX7_248 (E_rowAtN hx) (by decide) rfl rfl rfl rfl rfl (Nat.le_of_ble_eq_true rfl) (by decide) ?_
  refine s_astoreN (ls' := [some (.ref 0), some (.int x), some (.int w), some (.int t), some (.int v), some (.null), none, none, none, none, none]) (tb_ok aX7_houses_0 3 rfl) rfl rfl ?_
  refine s_aloadq (r := none) (tb_ok aX7_houses_0 4 rfl) rfl ?_
  refine s_ifnullN (tgt := 30) (tb_ok aX7_houses_0 5 rfl) (by decide) ?_
  refine s_bipush (v := -2) (tb_ok aX7_houses_0 14 rfl) (by decide) ?_
  refine s_iret (tb_ok aX7_houses_0 15 rfl) rfl ?_
  exact ⟨rfl, rfl, AgL.rf, rfl, rfl⟩

set_option maxRecDepth 100000 in
set_option maxHeartbeats 1000000 in
theorem C_housesB {X : En} {I : FI} {L : FL} {q : Nat × Nat} {s : Nat} (hrs : s < 4) {w t v : Int32} (hv : ¬ ((¬ w < 0 ∧ w < 3) ∧ ¬ v < 0 ∧ v ≤ 5)) : Ev X 9 mX7_houses (0, 0) [.ref 0, .int (nI s), .int w, .int t, .int v] S0 I L (R0 q) (AgLR (some (.int (-2))) (I) L q) := by
  refine ev_of (by decide +kernel) rfl ?_
  show SW X _ _ _ 0 [some (.ref 0), some (.int (nI s)), some (.int w), some (.int t), some (.int v), none, none, none, none, none, none] [] S0 I L (R0 q) _
  refine s_aload_n (tb_ok aX7_houses_0 0 rfl) rfl ?_
  refine s_iload_n (tb_ok aX7_houses_0 1 rfl) rfl ?_
  refine s_cVp (as := [.int (nI s)]) (tb_ok aX7_houses_0 2 rfl) v_RX7_248 (E_rowAt hrs) (by decide) rfl rfl rfl rfl rfl (Nat.le_of_ble_eq_true rfl) (by decide) ?_
  refine s_astore (ls' := [some (.ref 0), some (.int (nI s)), some (.int w), some (.int t), some (.int v), some (.ref (rowN s)), none, none, none, none, none]) (tb_ok aX7_houses_0 3 rfl) rfl rfl ?_
  refine s_aload (tb_ok aX7_houses_0 4 rfl) rfl ?_
  refine s_ifnull (tb_ok aX7_houses_0 5 rfl) ?_
  refine s_iload_n (tb_ok aX7_houses_0 6 rfl) rfl ?_
  refine s_cSp (as := [.int w]) (tb_ok aX7_houses_0 7 rfl) v_RX7_310 (E_isSort _) (by decide) rfl rfl (Nat.le_of_ble_eq_true rfl) ?_
  refine s_if_eq (tgt := 30) (tb_ok aX7_houses_0 8 rfl) (by decide) (fun c16 => ?_) (fun c16 => ?_)
  · refine s_bipush (v := -2) (tb_ok aX7_houses_0 14 rfl) (by decide) ?_
    refine s_iret (tb_ok aX7_houses_0 15 rfl) rfl ?_
    exact ⟨rfl, rfl, AgL.rf, rfl, rfl⟩
  · refine s_iload (tb_ok aX7_houses_0 9 rfl) rfl ?_
    refine s_if_lt (tgt := 30) (tb_ok aX7_houses_0 10 rfl) (by decide) (fun c21 => ?_) (fun c21 => ?_)
    · refine s_bipush (v := -2) (tb_ok aX7_houses_0 14 rfl) (by decide) ?_
      refine s_iret (tb_ok aX7_houses_0 15 rfl) rfl ?_
      exact ⟨rfl, rfl, AgL.rf, rfl, rfl⟩
    · refine s_iload (tb_ok aX7_houses_0 11 rfl) rfl ?_
      refine s_iconst (v := 5) (tb_ok aX7_houses_0 12 rfl) (by decide) ?_
      refine s_icmp_le (tgt := 33) (tb_ok aX7_houses_0 13 rfl) (by decide) (fun c27 => ?_) (fun c27 => ?_)
      · exact absurd ⟨bI_n c16, c21, c27⟩ hv
      · refine s_bipush (v := -2) (tb_ok aX7_houses_0 14 rfl) (by decide) ?_
        refine s_iret (tb_ok aX7_houses_0 15 rfl) rfl ?_
        exact ⟨rfl, rfl, AgL.rf, rfl, rfl⟩

set_option maxRecDepth 100000 in
set_option maxHeartbeats 1000000 in
theorem C_housesM {X : En} {I : FI} {L : FL} {q : Nat × Nat} {s : Nat} (hrs : s < 4) {so x : Int32} (hso : ¬ so < 0 ∧ so < 3) {n : Nat} (hn : n ≤ 5) (hmi : I (rowN s) 1 = -1) : Ev X 9 mX7_houses (0, 0) [.ref 0, .int (nI s), .int so, .int x, .int (nI n)] S0 I L (R0 q) (AgLR (some (.int (-11))) (I) L q) := by
  refine ev_of (by decide +kernel) rfl ?_
  show SW X _ _ _ 0 [some (.ref 0), some (.int (nI s)), some (.int so), some (.int x), some (.int (nI n)), none, none, none, none, none, none] [] S0 I L (R0 q) _
  refine s_aload_n (tb_ok aX7_houses_0 0 rfl) rfl ?_
  refine s_iload_n (tb_ok aX7_houses_0 1 rfl) rfl ?_
  refine s_cVp (as := [.int (nI s)]) (tb_ok aX7_houses_0 2 rfl) v_RX7_248 (E_rowAt hrs) (by decide) rfl rfl rfl rfl rfl (Nat.le_of_ble_eq_true rfl) (by decide) ?_
  refine s_astore (ls' := [some (.ref 0), some (.int (nI s)), some (.int so), some (.int x), some (.int (nI n)), some (.ref (rowN s)), none, none, none, none, none]) (tb_ok aX7_houses_0 3 rfl) rfl rfl ?_
  refine s_aload (tb_ok aX7_houses_0 4 rfl) rfl ?_
  refine s_ifnull (tb_ok aX7_houses_0 5 rfl) ?_
  refine s_iload_n (tb_ok aX7_houses_0 6 rfl) rfl ?_
  refine s_cSp (as := [.int so]) (tb_ok aX7_houses_0 7 rfl) v_RX7_310 (E_isSort _) (by decide) rfl rfl (Nat.le_of_ble_eq_true rfl) ?_
  refine s_topi (bI_t hso) ?_
  refine s_if_eq (tgt := 30) (tb_ok aX7_houses_0 8 rfl) (by decide) (fun c16 => ?_) (fun c16 => ?_)
  · exact absurd c16 (by decide)
  · refine s_iload (tb_ok aX7_houses_0 9 rfl) rfl ?_
    refine s_if_lt (tgt := 30) (tb_ok aX7_houses_0 10 rfl) (by decide) (fun c21 => ?_) (fun c21 => ?_)
    · exact absurd c21 (nI_pos (by omega))
    · refine s_iload (tb_ok aX7_houses_0 11 rfl) rfl ?_
      refine s_iconst (v := nI 5) (tb_ok aX7_houses_0 12 rfl) (by decide) ?_
      refine s_icmp_le (tgt := 33) (tb_ok aX7_houses_0 13 rfl) (by decide) (fun c27 => ?_) (fun c27 => ?_)
      · refine s_aload (tb_ok aX7_houses_0 16 rfl) rfl ?_
        refine s_cVp (as := []) (tb_ok aX7_houses_0 17 rfl) v_RX7_252 (E_isMissing (row0 q hrs)) (by decide) (row0 q hrs).1 rfl rfl rfl rfl (Nat.le_of_ble_eq_true rfl) (by decide) ?_
        refine s_topi (bI_t hmi) ?_
        refine s_if_eq (tgt := 44) (tb_ok aX7_houses_0 18 rfl) (by decide) (fun c38 => ?_) (fun c38 => ?_)
        · exact absurd c38 (by decide)
        · refine s_bipush (v := -11) (tb_ok aX7_houses_0 19 rfl) (by decide) ?_
          refine s_iret (tb_ok aX7_houses_0 20 rfl) rfl ?_
          exact ⟨rfl, rfl, AgL.rf, rfl, rfl⟩
      · exact absurd (nI_s hn (by decide)) c27

set_option maxRecDepth 100000 in
set_option maxHeartbeats 1000000 in
theorem C_housesU {X : En} {I : FI} {L : FL} {q : Nat × Nat} {s : Nat} (hrs : s < 4) {so x : Int32} (hso : ¬ so < 0 ∧ so < 3) {n : Nat} (hn : n ≤ 5) (hnm : ¬ I (rowN s) 1 = -1) (hu : ¬ I (rowN s) 1 = so) : Ev X 9 mX7_houses (0, 0) [.ref 0, .int (nI s), .int so, .int x, .int (nI n)] S0 I L (R0 q) (AgLR (some (.int (-13))) (I) L q) := by
  refine ev_of (by decide +kernel) rfl ?_
  show SW X _ _ _ 0 [some (.ref 0), some (.int (nI s)), some (.int so), some (.int x), some (.int (nI n)), none, none, none, none, none, none] [] S0 I L (R0 q) _
  refine s_aload_n (tb_ok aX7_houses_0 0 rfl) rfl ?_
  refine s_iload_n (tb_ok aX7_houses_0 1 rfl) rfl ?_
  refine s_cVp (as := [.int (nI s)]) (tb_ok aX7_houses_0 2 rfl) v_RX7_248 (E_rowAt hrs) (by decide) rfl rfl rfl rfl rfl (Nat.le_of_ble_eq_true rfl) (by decide) ?_
  refine s_astore (ls' := [some (.ref 0), some (.int (nI s)), some (.int so), some (.int x), some (.int (nI n)), some (.ref (rowN s)), none, none, none, none, none]) (tb_ok aX7_houses_0 3 rfl) rfl rfl ?_
  refine s_aload (tb_ok aX7_houses_0 4 rfl) rfl ?_
  refine s_ifnull (tb_ok aX7_houses_0 5 rfl) ?_
  refine s_iload_n (tb_ok aX7_houses_0 6 rfl) rfl ?_
  refine s_cSp (as := [.int so]) (tb_ok aX7_houses_0 7 rfl) v_RX7_310 (E_isSort _) (by decide) rfl rfl (Nat.le_of_ble_eq_true rfl) ?_
  refine s_topi (bI_t hso) ?_
  refine s_if_eq (tgt := 30) (tb_ok aX7_houses_0 8 rfl) (by decide) (fun c16 => ?_) (fun c16 => ?_)
  · exact absurd c16 (by decide)
  · refine s_iload (tb_ok aX7_houses_0 9 rfl) rfl ?_
    refine s_if_lt (tgt := 30) (tb_ok aX7_houses_0 10 rfl) (by decide) (fun c21 => ?_) (fun c21 => ?_)
    · exact absurd c21 (nI_pos (by omega))
    · refine s_iload (tb_ok aX7_houses_0 11 rfl) rfl ?_
      refine s_iconst (v := nI 5) (tb_ok aX7_houses_0 12 rfl) (by decide) ?_
      refine s_icmp_le (tgt := 33) (tb_ok aX7_houses_0 13 rfl) (by decide) (fun c27 => ?_) (fun c27 => ?_)
      · refine s_aload (tb_ok aX7_houses_0 16 rfl) rfl ?_
        refine s_cVp (as := []) (tb_ok aX7_houses_0 17 rfl) v_RX7_252 (E_isMissing (row0 q hrs)) (by decide) (row0 q hrs).1 rfl rfl rfl rfl (Nat.le_of_ble_eq_true rfl) (by decide) ?_
        refine s_topi (bI_f (show ¬ I (rowN s) 1 = -1 from hnm)) ?_
        refine s_if_eq (tgt := 44) (tb_ok aX7_houses_0 18 rfl) (by decide) (fun c38 => ?_) (fun c38 => ?_)
        · refine s_aload (tb_ok aX7_houses_0 21 rfl) rfl ?_
          refine s_getI (tb_ok aX7_houses_0 22 rfl) f_RX7_314 (row0 q hrs).1 rfl rfl ?_
          refine s_iload_n (tb_ok aX7_houses_0 23 rfl) rfl ?_
          refine s_icmp_eq (tgt := 56) (tb_ok aX7_houses_1 0 rfl) (by decide) (fun c50 => ?_) (fun c50 => ?_)
          · exact absurd c50 hu
          · refine s_bipush (v := -13) (tb_ok aX7_houses_1 1 rfl) (by decide) ?_
            refine s_iret (tb_ok aX7_houses_1 2 rfl) rfl ?_
            exact ⟨rfl, rfl, AgL.rf, rfl, rfl⟩
        · exact absurd c38 (by decide)
      · exact absurd (nI_s hn (by decide)) c27

set_option maxRecDepth 100000 in
set_option maxHeartbeats 1000000 in
theorem C_housesZ {X : En} {I : FI} {L : FL} {q : Nat × Nat} {s : Nat} (hrs : s < 4) {so x : Int32} (hso : ¬ so < 0 ∧ so < 3) {n : Nat} (hn : n ≤ 5) (hnm : ¬ I (rowN s) 1 = -1) (hu : I (rowN s) 1 = so) (hn0 : n = 0) : Ev X 9 mX7_houses (0, 0) [.ref 0, .int (nI s), .int so, .int x, .int (nI n)] S0 I L (R0 q) (AgLR (some (.int 0)) (I) L q) := by
  refine ev_of (by decide +kernel) rfl ?_
  show SW X _ _ _ 0 [some (.ref 0), some (.int (nI s)), some (.int so), some (.int x), some (.int (nI n)), none, none, none, none, none, none] [] S0 I L (R0 q) _
  refine s_aload_n (tb_ok aX7_houses_0 0 rfl) rfl ?_
  refine s_iload_n (tb_ok aX7_houses_0 1 rfl) rfl ?_
  refine s_cVp (as := [.int (nI s)]) (tb_ok aX7_houses_0 2 rfl) v_RX7_248 (E_rowAt hrs) (by decide) rfl rfl rfl rfl rfl (Nat.le_of_ble_eq_true rfl) (by decide) ?_
  refine s_astore (ls' := [some (.ref 0), some (.int (nI s)), some (.int so), some (.int x), some (.int (nI n)), some (.ref (rowN s)), none, none, none, none, none]) (tb_ok aX7_houses_0 3 rfl) rfl rfl ?_
  refine s_aload (tb_ok aX7_houses_0 4 rfl) rfl ?_
  refine s_ifnull (tb_ok aX7_houses_0 5 rfl) ?_
  refine s_iload_n (tb_ok aX7_houses_0 6 rfl) rfl ?_
  refine s_cSp (as := [.int so]) (tb_ok aX7_houses_0 7 rfl) v_RX7_310 (E_isSort _) (by decide) rfl rfl (Nat.le_of_ble_eq_true rfl) ?_
  refine s_topi (bI_t hso) ?_
  refine s_if_eq (tgt := 30) (tb_ok aX7_houses_0 8 rfl) (by decide) (fun c16 => ?_) (fun c16 => ?_)
  · exact absurd c16 (by decide)
  · refine s_iload (tb_ok aX7_houses_0 9 rfl) rfl ?_
    refine s_if_lt (tgt := 30) (tb_ok aX7_houses_0 10 rfl) (by decide) (fun c21 => ?_) (fun c21 => ?_)
    · exact absurd c21 (nI_pos (by omega))
    · refine s_iload (tb_ok aX7_houses_0 11 rfl) rfl ?_
      refine s_iconst (v := nI 5) (tb_ok aX7_houses_0 12 rfl) (by decide) ?_
      refine s_icmp_le (tgt := 33) (tb_ok aX7_houses_0 13 rfl) (by decide) (fun c27 => ?_) (fun c27 => ?_)
      · refine s_aload (tb_ok aX7_houses_0 16 rfl) rfl ?_
        refine s_cVp (as := []) (tb_ok aX7_houses_0 17 rfl) v_RX7_252 (E_isMissing (row0 q hrs)) (by decide) (row0 q hrs).1 rfl rfl rfl rfl (Nat.le_of_ble_eq_true rfl) (by decide) ?_
        refine s_topi (bI_f (show ¬ I (rowN s) 1 = -1 from hnm)) ?_
        refine s_if_eq (tgt := 44) (tb_ok aX7_houses_0 18 rfl) (by decide) (fun c38 => ?_) (fun c38 => ?_)
        · refine s_aload (tb_ok aX7_houses_0 21 rfl) rfl ?_
          refine s_getI (tb_ok aX7_houses_0 22 rfl) f_RX7_314 (row0 q hrs).1 rfl rfl ?_
          refine s_iload_n (tb_ok aX7_houses_0 23 rfl) rfl ?_
          refine s_icmp_eq (tgt := 56) (tb_ok aX7_houses_1 0 rfl) (by decide) (fun c50 => ?_) (fun c50 => ?_)
          · refine s_iconst (v := nI 0) (tb_ok aX7_houses_1 3 rfl) (by decide) ?_
            refine s_istore (ls' := [some (.ref 0), some (.int (nI s)), some (.int so), some (.int x), some (.int (nI n)), some (.ref (rowN s)), some (.int (nI 0)), none, none, none, none]) (tb_ok aX7_houses_1 4 rfl) rfl rfl ?_
            refine s_iconst (v := nI 0) (tb_ok aX7_houses_1 5 rfl) (by decide) ?_
            refine s_istore (ls' := [some (.ref 0), some (.int (nI s)), some (.int so), some (.int x), some (.int (nI n)), some (.ref (rowN s)), some (.int (nI 0)), some (.int (nI 0)), none, none, none]) (tb_ok aX7_houses_1 6 rfl) rfl rfl ?_
            refine s_iload (tb_ok aX7_houses_1 7 rfl) rfl ?_
            refine s_iload (tb_ok aX7_houses_1 8 rfl) rfl ?_
            refine s_icmp_ge (tgt := 148) (tb_ok aX7_houses_1 9 rfl) (by decide) (fun c66 => ?_) (fun c66 => ?_)
            · refine s_iload (tb_ok aX7_houses_3 1 rfl) rfl ?_
              refine s_iret (tb_ok aX7_houses_3 2 rfl) rfl ?_
              exact ⟨rfl, rfl, AgL.rf, rfl, rfl⟩
            · simp (disch := omega) only [nI_leI] at c66
              omega
          · exact absurd hu c50
        · exact absurd c38 (by decide)
      · exact absurd (nI_s hn (by decide)) c27

set_option maxRecDepth 100000 in
set_option maxHeartbeats 1000000 in
theorem C_housesL {X : En} {I : FI} {L : FL} {q : Nat × Nat} {s : Nat} (hrs : s < 4) {so x : Int32} (hso : ¬ so < 0 ∧ so < 3) {n : Nat} (hn : n ≤ 5) (hnm : ¬ I (rowN s) 1 = -1) (hu : I (rowN s) 1 = so) (hx : x < 0) (hn1 : 0 < n) : Ev X 9 mX7_houses (0, 0) [.ref 0, .int (nI s), .int so, .int x, .int (nI n)] S0 I L (R0 q) (AgLR (some (.int (-12))) (I) L q) := by
  refine ev_of (by decide +kernel) rfl ?_
  show SW X _ _ _ 0 [some (.ref 0), some (.int (nI s)), some (.int so), some (.int x), some (.int (nI n)), none, none, none, none, none, none] [] S0 I L (R0 q) _
  refine s_aload_n (tb_ok aX7_houses_0 0 rfl) rfl ?_
  refine s_iload_n (tb_ok aX7_houses_0 1 rfl) rfl ?_
  refine s_cVp (as := [.int (nI s)]) (tb_ok aX7_houses_0 2 rfl) v_RX7_248 (E_rowAt hrs) (by decide) rfl rfl rfl rfl rfl (Nat.le_of_ble_eq_true rfl) (by decide) ?_
  refine s_astore (ls' := [some (.ref 0), some (.int (nI s)), some (.int so), some (.int x), some (.int (nI n)), some (.ref (rowN s)), none, none, none, none, none]) (tb_ok aX7_houses_0 3 rfl) rfl rfl ?_
  refine s_aload (tb_ok aX7_houses_0 4 rfl) rfl ?_
  refine s_ifnull (tb_ok aX7_houses_0 5 rfl) ?_
  refine s_iload_n (tb_ok aX7_houses_0 6 rfl) rfl ?_
  refine s_cSp (as := [.int so]) (tb_ok aX7_houses_0 7 rfl) v_RX7_310 (E_isSort _) (by decide) rfl rfl (Nat.le_of_ble_eq_true rfl) ?_
  refine s_topi (bI_t hso) ?_
  refine s_if_eq (tgt := 30) (tb_ok aX7_houses_0 8 rfl) (by decide) (fun c16 => ?_) (fun c16 => ?_)
  · exact absurd c16 (by decide)
  · refine s_iload (tb_ok aX7_houses_0 9 rfl) rfl ?_
    refine s_if_lt (tgt := 30) (tb_ok aX7_houses_0 10 rfl) (by decide) (fun c21 => ?_) (fun c21 => ?_)
    · exact absurd c21 (nI_pos (by omega))
    · refine s_iload (tb_ok aX7_houses_0 11 rfl) rfl ?_
      refine s_iconst (v := nI 5) (tb_ok aX7_houses_0 12 rfl) (by decide) ?_
      refine s_icmp_le (tgt := 33) (tb_ok aX7_houses_0 13 rfl) (by decide) (fun c27 => ?_) (fun c27 => ?_)
      · refine s_aload (tb_ok aX7_houses_0 16 rfl) rfl ?_
        refine s_cVp (as := []) (tb_ok aX7_houses_0 17 rfl) v_RX7_252 (E_isMissing (row0 q hrs)) (by decide) (row0 q hrs).1 rfl rfl rfl rfl (Nat.le_of_ble_eq_true rfl) (by decide) ?_
        refine s_topi (bI_f (show ¬ I (rowN s) 1 = -1 from hnm)) ?_
        refine s_if_eq (tgt := 44) (tb_ok aX7_houses_0 18 rfl) (by decide) (fun c38 => ?_) (fun c38 => ?_)
        · refine s_aload (tb_ok aX7_houses_0 21 rfl) rfl ?_
          refine s_getI (tb_ok aX7_houses_0 22 rfl) f_RX7_314 (row0 q hrs).1 rfl rfl ?_
          refine s_iload_n (tb_ok aX7_houses_0 23 rfl) rfl ?_
          refine s_icmp_eq (tgt := 56) (tb_ok aX7_houses_1 0 rfl) (by decide) (fun c50 => ?_) (fun c50 => ?_)
          · refine s_iconst (v := nI 0) (tb_ok aX7_houses_1 3 rfl) (by decide) ?_
            refine s_istore (ls' := [some (.ref 0), some (.int (nI s)), some (.int so), some (.int x), some (.int (nI n)), some (.ref (rowN s)), some (.int (nI 0)), none, none, none, none]) (tb_ok aX7_houses_1 4 rfl) rfl rfl ?_
            refine s_iconst (v := nI 0) (tb_ok aX7_houses_1 5 rfl) (by decide) ?_
            refine s_istore (ls' := [some (.ref 0), some (.int (nI s)), some (.int so), some (.int x), some (.int (nI n)), some (.ref (rowN s)), some (.int (nI 0)), some (.int (nI 0)), none, none, none]) (tb_ok aX7_houses_1 6 rfl) rfl rfl ?_
            refine s_iload (tb_ok aX7_houses_1 7 rfl) rfl ?_
            refine s_iload (tb_ok aX7_houses_1 8 rfl) rfl ?_
            refine s_icmp_ge (tgt := 148) (tb_ok aX7_houses_1 9 rfl) (by decide) (fun c66 => ?_) (fun c66 => ?_)
            · simp (disch := omega) only [nI_leI] at c66
              omega
            · refine s_iload_n (tb_ok aX7_houses_1 10 rfl) rfl ?_
              refine s_iconst (v := 2) (tb_ok aX7_houses_1 11 rfl) (by decide) ?_
              refine s_iload (tb_ok aX7_houses_1 12 rfl) rfl ?_
              refine s_imul (tb_ok aX7_houses_1 13 rfl) ?_
              refine s_iadd (tb_ok aX7_houses_1 14 rfl) ?_
              refine s_istore (ls' := [some (.ref 0), some (.int (nI s)), some (.int so), some (.int x), some (.int (nI n)), some (.ref (rowN s)), some (.int (nI 0)), some (.int (nI 0)), some (.int (x + 2 * nI 0)), none, none]) (tb_ok aX7_houses_1 15 rfl) rfl rfl ?_
              refine s_aload (tb_ok aX7_houses_1 16 rfl) rfl ?_
              refine s_iload (tb_ok aX7_houses_1 17 rfl) rfl ?_
              refine s_iconst (v := 2) (tb_ok aX7_houses_1 18 rfl) (by decide) ?_
              refine s_cVp (as := [.int (x + 2 * nI 0), .int (2)]) (tb_ok aX7_houses_1 19 rfl) v_RX7_317 (E_RhasAll (row0 q hrs) _ _) (by decide) (row0 q hrs).1 rfl rfl rfl rfl (Nat.le_of_ble_eq_true rfl) (by decide) ?_
              refine s_topi (bI_f (fun h_ => h_.2.1 (by rw [show (2 : Int32) * nI 0 = 0 from rfl, Int32.add_zero]; exact hx))) ?_
              refine s_if_ne (tgt := 91) (tb_ok aX7_houses_1 20 rfl) (by decide) (fun c85 => ?_) (fun c85 => ?_)
              · exact absurd c85 (by decide)
              · refine s_bipush (v := -12) (tb_ok aX7_houses_1 21 rfl) (by decide) ?_
                refine s_iret (tb_ok aX7_houses_1 22 rfl) rfl ?_
                exact ⟨rfl, rfl, AgL.rf, rfl, rfl⟩
          · exact absurd hu c50
        · exact absurd c38 (by decide)
      · exact absurd (nI_s hn (by decide)) c27
