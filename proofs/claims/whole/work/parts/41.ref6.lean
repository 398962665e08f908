/-! the reference: all levels, a part, a whole text -/
set_option maxRecDepth 100000 in
set_option maxHeartbeats 1000000 in
theorem C_lev5 {X : En} {q : Nat × Nat} {I0 : FI} {F n : Nat} {t nm : Nat → Int32} (hT : TxX I0 F n t nm) : CtX X q t nm n I0 8 mX8_atom5 5 (oneP t n (lev t n 0)) ∧ CtX X q t nm n I0 12 mX8_not5 5 (nottP t n (lev t n 0)) ∧ CtX X q t nm n I0 14 mX8_either5 5 (eithP t n (lev t n 0)) := by
  have hs := lev_nice t n 0
  have n1 := one_nice (t := t) hs
  have n2 := seq_nice (t := t) (op := opT) (cd := cdT) (fun x h => by rw [h]; decide) (fun x _ => by show ¬ (30002 : Int32) < 30000; decide) n1
  have n3 := nott_nice (t := t) hs
  have n4 := seq_nice (t := t) (op := opB) (cd := cdB) (fun x h => by rw [h]; decide) (fun x _ => by show ¬ (30005 : Int32) < 30000; decide) n3
  have a : CtX X q t nm n I0 8 mX8_atom5 5 (oneP t n (lev t n 0)) := C_atom5 hT (d := 8) (by decide)
  have b := C_term5 hT (d := 8) (by decide) n1 a
  have c := C_added5 hT (d := 9) (by decide) n2 b
  have e : CtX X q t nm n I0 12 mX8_not5 5 (nottP t n (lev t n 0)) := C_not5 hT (d := 12) (by decide) (d1 := 10) (d2 := 0) (by decide) (by decide) c
  have f := C_both5 hT (d := 12) (by decide) n3 e
  exact ⟨a, e, C_either5 hT (d := 13) (by decide) n4 f⟩

set_option maxRecDepth 100000 in
set_option maxHeartbeats 1000000 in
theorem C_lev4 {X : En} {q : Nat × Nat} {I0 : FI} {F n : Nat} {t nm : Nat → Int32} (hT : TxX I0 F n t nm) : CtX X q t nm n I0 15 mX8_atom4 4 (oneP t n (lev t n 1)) ∧ CtX X q t nm n I0 19 mX8_not4 4 (nottP t n (lev t n 1)) ∧ CtX X q t nm n I0 21 mX8_either4 4 (eithP t n (lev t n 1)) := by
  have hs := lev_nice t n 1
  have n1 := one_nice (t := t) hs
  have n2 := seq_nice (t := t) (op := opT) (cd := cdT) (fun x h => by rw [h]; decide) (fun x _ => by show ¬ (30002 : Int32) < 30000; decide) n1
  have n3 := nott_nice (t := t) hs
  have n4 := seq_nice (t := t) (op := opB) (cd := cdB) (fun x h => by rw [h]; decide) (fun x _ => by show ¬ (30005 : Int32) < 30000; decide) n3
  obtain ⟨p1, p2, p3⟩ := C_lev5 hT (X := X) (q := q)
  have a : CtX X q t nm n I0 15 mX8_atom4 4 (oneP t n (lev t n 1)) := C_atom4 hT (d := 15) (by decide) (d1 := 8) (d2 := 14) (by decide) (by decide) p1 p3
  have b := C_term4 hT (d := 15) (by decide) n1 a
  have c := C_added4 hT (d := 16) (by decide) n2 b
  have e : CtX X q t nm n I0 19 mX8_not4 4 (nottP t n (lev t n 1)) := C_not4 hT (d := 19) (by decide) (d1 := 17) (d2 := 12) (by decide) (by decide) c p2
  have f := C_both4 hT (d := 19) (by decide) n3 e
  exact ⟨a, e, C_either4 hT (d := 20) (by decide) n4 f⟩

set_option maxRecDepth 100000 in
set_option maxHeartbeats 1000000 in
theorem C_lev3 {X : En} {q : Nat × Nat} {I0 : FI} {F n : Nat} {t nm : Nat → Int32} (hT : TxX I0 F n t nm) : CtX X q t nm n I0 22 mX8_atom3 3 (oneP t n (lev t n 2)) ∧ CtX X q t nm n I0 26 mX8_not3 3 (nottP t n (lev t n 2)) ∧ CtX X q t nm n I0 28 mX8_either3 3 (eithP t n (lev t n 2)) := by
  have hs := lev_nice t n 2
  have n1 := one_nice (t := t) hs
  have n2 := seq_nice (t := t) (op := opT) (cd := cdT) (fun x h => by rw [h]; decide) (fun x _ => by show ¬ (30002 : Int32) < 30000; decide) n1
  have n3 := nott_nice (t := t) hs
  have n4 := seq_nice (t := t) (op := opB) (cd := cdB) (fun x h => by rw [h]; decide) (fun x _ => by show ¬ (30005 : Int32) < 30000; decide) n3
  obtain ⟨p1, p2, p3⟩ := C_lev4 hT (X := X) (q := q)
  have a : CtX X q t nm n I0 22 mX8_atom3 3 (oneP t n (lev t n 2)) := C_atom3 hT (d := 22) (by decide) (d1 := 15) (d2 := 21) (by decide) (by decide) p1 p3
  have b := C_term3 hT (d := 22) (by decide) n1 a
  have c := C_added3 hT (d := 23) (by decide) n2 b
  have e : CtX X q t nm n I0 26 mX8_not3 3 (nottP t n (lev t n 2)) := C_not3 hT (d := 26) (by decide) (d1 := 24) (d2 := 19) (by decide) (by decide) c p2
  have f := C_both3 hT (d := 26) (by decide) n3 e
  exact ⟨a, e, C_either3 hT (d := 27) (by decide) n4 f⟩

set_option maxRecDepth 100000 in
set_option maxHeartbeats 1000000 in
theorem C_lev2 {X : En} {q : Nat × Nat} {I0 : FI} {F n : Nat} {t nm : Nat → Int32} (hT : TxX I0 F n t nm) : CtX X q t nm n I0 29 mX8_atom2 2 (oneP t n (lev t n 3)) ∧ CtX X q t nm n I0 33 mX8_not2 2 (nottP t n (lev t n 3)) ∧ CtX X q t nm n I0 35 mX8_either2 2 (eithP t n (lev t n 3)) := by
  have hs := lev_nice t n 3
  have n1 := one_nice (t := t) hs
  have n2 := seq_nice (t := t) (op := opT) (cd := cdT) (fun x h => by rw [h]; decide) (fun x _ => by show ¬ (30002 : Int32) < 30000; decide) n1
  have n3 := nott_nice (t := t) hs
  have n4 := seq_nice (t := t) (op := opB) (cd := cdB) (fun x h => by rw [h]; decide) (fun x _ => by show ¬ (30005 : Int32) < 30000; decide) n3
  obtain ⟨p1, p2, p3⟩ := C_lev3 hT (X := X) (q := q)
  have a : CtX X q t nm n I0 29 mX8_atom2 2 (oneP t n (lev t n 3)) := C_atom2 hT (d := 29) (by decide) (d1 := 22) (d2 := 28) (by decide) (by decide) p1 p3
  have b := C_term2 hT (d := 29) (by decide) n1 a
  have c := C_added2 hT (d := 30) (by decide) n2 b
  have e : CtX X q t nm n I0 33 mX8_not2 2 (nottP t n (lev t n 3)) := C_not2 hT (d := 33) (by decide) (d1 := 31) (d2 := 26) (by decide) (by decide) c p2
  have f := C_both2 hT (d := 33) (by decide) n3 e
  exact ⟨a, e, C_either2 hT (d := 34) (by decide) n4 f⟩

set_option maxRecDepth 100000 in
set_option maxHeartbeats 1000000 in
theorem C_lev1 {X : En} {q : Nat × Nat} {I0 : FI} {F n : Nat} {t nm : Nat → Int32} (hT : TxX I0 F n t nm) : CtX X q t nm n I0 36 mX8_atom1 1 (oneP t n (lev t n 4)) ∧ CtX X q t nm n I0 40 mX8_not1 1 (nottP t n (lev t n 4)) ∧ CtX X q t nm n I0 42 mX8_either1 1 (eithP t n (lev t n 4)) := by
  have hs := lev_nice t n 4
  have n1 := one_nice (t := t) hs
  have n2 := seq_nice (t := t) (op := opT) (cd := cdT) (fun x h => by rw [h]; decide) (fun x _ => by show ¬ (30002 : Int32) < 30000; decide) n1
  have n3 := nott_nice (t := t) hs
  have n4 := seq_nice (t := t) (op := opB) (cd := cdB) (fun x h => by rw [h]; decide) (fun x _ => by show ¬ (30005 : Int32) < 30000; decide) n3
  obtain ⟨p1, p2, p3⟩ := C_lev2 hT (X := X) (q := q)
  have a : CtX X q t nm n I0 36 mX8_atom1 1 (oneP t n (lev t n 4)) := C_atom1 hT (d := 36) (by decide) (d1 := 29) (d2 := 35) (by decide) (by decide) p1 p3
  have b := C_term1 hT (d := 36) (by decide) n1 a
  have c := C_added1 hT (d := 37) (by decide) n2 b
  have e : CtX X q t nm n I0 40 mX8_not1 1 (nottP t n (lev t n 4)) := C_not1 hT (d := 40) (by decide) (d1 := 38) (d2 := 33) (by decide) (by decide) c p2
  have f := C_both1 hT (d := 40) (by decide) n3 e
  exact ⟨a, e, C_either1 hT (d := 41) (by decide) n4 f⟩

set_option maxRecDepth 100000 in
set_option maxHeartbeats 1000000 in
theorem C_lev0 {X : En} {q : Nat × Nat} {I0 : FI} {F n : Nat} {t nm : Nat → Int32} (hT : TxX I0 F n t nm) : CtX X q t nm n I0 43 mX8_atom0 0 (oneP t n (lev t n 5)) ∧ CtX X q t nm n I0 47 mX8_not0 0 (nottP t n (lev t n 5)) ∧ CtX X q t nm n I0 49 mX8_either0 0 (eithP t n (lev t n 5)) := by
  have hs := lev_nice t n 5
  have n1 := one_nice (t := t) hs
  have n2 := seq_nice (t := t) (op := opT) (cd := cdT) (fun x h => by rw [h]; decide) (fun x _ => by show ¬ (30002 : Int32) < 30000; decide) n1
  have n3 := nott_nice (t := t) hs
  have n4 := seq_nice (t := t) (op := opB) (cd := cdB) (fun x h => by rw [h]; decide) (fun x _ => by show ¬ (30005 : Int32) < 30000; decide) n3
  obtain ⟨p1, p2, p3⟩ := C_lev1 hT (X := X) (q := q)
  have a : CtX X q t nm n I0 43 mX8_atom0 0 (oneP t n (lev t n 5)) := C_atom0 hT (d := 43) (by decide) (d1 := 36) (d2 := 42) (by decide) (by decide) p1 p3
  have b := C_term0 hT (d := 43) (by decide) n1 a
  have c := C_added0 hT (d := 44) (by decide) n2 b
  have e : CtX X q t nm n I0 47 mX8_not0 0 (nottP t n (lev t n 5)) := C_not0 hT (d := 47) (by decide) (d1 := 45) (d2 := 40) (by decide) (by decide) c p2
  have f := C_both0 hT (d := 47) (by decide) n3 e
  exact ⟨a, e, C_either0 hT (d := 48) (by decide) n4 f⟩

set_option maxRecDepth 100000 in
set_option maxHeartbeats 1000000 in
theorem R_part {X : En} {q : Nat × Nat} {I0 : FI} {F n : Nat} {t nm : Nat → Int32} (hT : TxX I0 F n t nm) {I : FI} {L : FL} {s : St} (h : ROk t n 0 I0 s I L) {key : Int32} (hkey : key = 4 ∨ key = 5 ∨ key = 6) : Ev X 50 mX8_part (0, 0) [.ref 66, .int (bI (s.tok = key))] S0 I L (R0 q) (AfP q t nm n 0 I0 ((partP t n key) s)) := by
  obtain ⟨hF, hn, hn160, hFn, ht, ht0, hnm⟩ := id hT
  refine ev_of (by decide +kernel) rfl ?_
  show SW X _ _ _ 0 [some (.ref 66), some (.int (bI (s.tok = key))), none] [] S0 I L (R0 q) _
  refine s_iload_n (tb_ok aX8_part_0 0 rfl) rfl ?_
  refine s_if_ne (tgt := 8) (tb_ok aX8_part_0 1 rfl) (by decide) (fun c1 => ?_) (fun c1 => ?_)
  · refine s_aload_n (tb_ok aX8_part_0 4 rfl) rfl ?_
    refine s_getI (x := (0)) (tb_ok aX8_part_0 5 rfl) f_RX8_173 rfl rfl h.2.2.1 ?_
    refine s_if_ne (tgt := 19) (tb_ok aX8_part_0 6 rfl) (by decide) (fun c12 => ?_) (fun c12 => ?_)
    · exact absurd c12 (by decide)
    · have hk : s.tok = key := bI_n c1
      refine s_aload_n (tb_ok aX8_part_0 7 rfl) rfl ?_
      refine s_cV (as := []) (tb_ok aX8_part_0 8 rfl) v_RX8_190 (R_next hT h (by rw [hk]; rcases hkey with e_ | e_ | e_ <;> rw [e_] <;> decide) (by rw [hk]; rcases hkey with e_ | e_ | e_ <;> rw [e_] <;> decide)) (by omega) rfl rfl rfl rfl rfl (Nat.le_of_ble_eq_true rfl) (by decide) (fun r1 S1 I1 L1 R1 q1 => ?_)
      obtain ⟨rfl, rfl, rfl, u1⟩ := q1
      have a2 := (adv_wf (t := t) h.2.1).2.2 (by rw [hk]; rcases hkey with e_ | e_ | e_ <;> rw [e_] <;> decide)
      refine s_aload_n (tb_ok aX8_part_0 9 rfl) rfl ?_
      refine s_getI (x := (0)) (tb_ok aX8_part_0 10 rfl) f_RX8_173 rfl rfl u1.2.2.1 ?_
      refine s_if_eq (tgt := 30) (tb_ok aX8_part_0 11 rfl) (by decide) (fun c23 => ?_) (fun c23 => ?_)
      · refine s_aload_n (tb_ok aX8_part_0 14 rfl) rfl ?_
        refine s_cV (as := []) (tb_ok aX8_part_0 15 rfl) v_RX8_335 ((C_lev0 hT).2.2 _ _ _ u1) (by omega) rfl rfl rfl rfl rfl (Nat.le_of_ble_eq_true rfl) (by decide) (fun r2 S2 I2 L2 R2 q2 => ?_)
        obtain ⟨rfl, rfl, v3_, rfl, u3⟩ := q2
        cases e3_ : (eithP t n (lev t n 5)) (adv t n s) with
        | inr g3_ =>
          rw [e3_] at u3
          have u3 : RBad I0 g3_ _ := u3
          have hsq : (partP t n key) s = .inr g3_ := by
            unfold partP
            rw [if_pos hk]
            simp only [e3_]
          refine s_istore_n (ls' := [some (.ref 66), some (.int (bI (s.tok = key))), some (.int v3_)]) (tb_ok aX8_part_0 16 rfl) rfl rfl ?_
          refine s_aload_n (tb_ok aX8_part_0 17 rfl) rfl ?_
          refine s_bipush (v := 59) (tb_ok aX8_part_0 18 rfl) (by decide) ?_
          refine s_cVp (as := [.int (59)]) (tb_ok aX8_part_0 19 rfl) v_RX8_215 (R_isSignE (I0 := I0) u3.2.1) (by omega) rfl rfl rfl rfl rfl (Nat.le_of_ble_eq_true rfl) (by decide) ?_
          refine s_if_ne (tgt := 48) (tb_ok aX8_part_0 20 rfl) (by decide) (fun c41 => ?_) (fun c41 => ?_)
          · exact absurd c41 (by decide)
          · refine s_aload_n (tb_ok aX8_part_0 21 rfl) rfl ?_
            refine s_cV (as := []) (tb_ok aX8_part_0 22 rfl) v_RX8_187 (R_failE u3) (by omega) rfl rfl rfl rfl rfl (Nat.le_of_ble_eq_true rfl) (by decide) (fun r3 S3 I3 L3 R3 q3 => ?_)
            obtain ⟨rfl, rfl, rfl, u4⟩ := q3
            refine s_aload_n (tb_ok aX8_part_0 23 rfl) rfl ?_
            refine s_getI (x := (1)) (tb_ok aX8_part_1 0 rfl) f_RX8_173 rfl rfl u4.2.1 ?_
            refine s_if_ne (tgt := 59) (tb_ok aX8_part_1 1 rfl) (by decide) (fun c52 => ?_) (fun c52 => ?_)
            · refine s_iload_n (tb_ok aX8_part_1 4 rfl) rfl ?_
              refine s_iret (tb_ok aX8_part_1 5 rfl) rfl ?_
              refine ⟨rfl, rfl, _, rfl, ?_⟩
              rw [hsq]
              exact u4
            · exact absurd c52 (by decide)
        | inl qq =>
          obtain ⟨c3_, f3_, s3_⟩ := qq
          rw [e3_] at u3
          obtain ⟨w3_, u3⟩ := u3
          have w3_ : v3_ = f3_ nm := w3_
          have u3 : ROk t n 0 I0 s3_ _ _ := u3
          refine s_istore_n (ls' := [some (.ref 66), some (.int (bI (s.tok = key))), some (.int v3_)]) (tb_ok aX8_part_0 16 rfl) rfl rfl ?_
          refine s_aload_n (tb_ok aX8_part_0 17 rfl) rfl ?_
          refine s_bipush (v := 59) (tb_ok aX8_part_0 18 rfl) (by decide) ?_
          refine s_cVp (as := [.int (59)]) (tb_ok aX8_part_0 19 rfl) v_RX8_215 (R_isSign (I0 := I0) u3.2.2.1 u3.2.2.2.2.2 (by decide)) (by omega) rfl rfl rfl rfl rfl (Nat.le_of_ble_eq_true rfl) (by decide) ?_
          refine s_if_ne (tgt := 48) (tb_ok aX8_part_0 20 rfl) (by decide) (fun c41 => ?_) (fun c41 => ?_)
          · refine s_aload_n (tb_ok aX8_part_0 23 rfl) rfl ?_
            refine s_getI (x := (0)) (tb_ok aX8_part_1 0 rfl) f_RX8_173 rfl rfl u3.2.2.1 ?_
            refine s_if_ne (tgt := 59) (tb_ok aX8_part_1 1 rfl) (by decide) (fun c52 => ?_) (fun c52 => ?_)
            · exact absurd c52 (by decide)
            · have h59 : s3_.tok = 59 := bI_n c41
              have hsq : (partP t n key) s = .inl (c3_, f3_, adv t n s3_) := by
                unfold partP
                rw [if_pos hk]
                simp only [e3_]
                rw [if_pos h59]
              refine s_aload_n (tb_ok aX8_part_1 2 rfl) rfl ?_
              refine s_cV (as := []) (tb_ok aX8_part_1 3 rfl) v_RX8_190 (R_next hT u3 (by rw [h59]; decide) (by rw [h59]; decide)) (by omega) rfl rfl rfl rfl rfl (Nat.le_of_ble_eq_true rfl) (by decide) (fun r4 S4 I4 L4 R4 q4 => ?_)
              obtain ⟨rfl, rfl, rfl, u5⟩ := q4
              have a6 := (adv_wf (t := t) u3.2.1).2.2 (by rw [h59]; decide)
              refine s_iload_n (tb_ok aX8_part_1 4 rfl) rfl ?_
              refine s_iret (tb_ok aX8_part_1 5 rfl) rfl ?_
              refine ⟨rfl, rfl, _, rfl, ?_⟩
              rw [hsq]
              refine ⟨?_, u5⟩
              exact w3_
          · have hsq : (partP t n key) s = .inr s3_.pl := by
              unfold partP
              rw [if_pos hk]
              simp only [e3_]
              rw [if_neg (bI_0.mp c41)]
            refine s_aload_n (tb_ok aX8_part_0 21 rfl) rfl ?_
            refine s_cV (as := []) (tb_ok aX8_part_0 22 rfl) v_RX8_187 (R_fail u3) (by omega) rfl rfl rfl rfl rfl (Nat.le_of_ble_eq_true rfl) (by decide) (fun r5 S5 I5 L5 R5 q5 => ?_)
            obtain ⟨rfl, rfl, rfl, u7⟩ := q5
            refine s_aload_n (tb_ok aX8_part_0 23 rfl) rfl ?_
            refine s_getI (x := (1)) (tb_ok aX8_part_1 0 rfl) f_RX8_173 rfl rfl u7.2.1 ?_
            refine s_if_ne (tgt := 59) (tb_ok aX8_part_1 1 rfl) (by decide) (fun c52 => ?_) (fun c52 => ?_)
            · refine s_iload_n (tb_ok aX8_part_1 4 rfl) rfl ?_
              refine s_iret (tb_ok aX8_part_1 5 rfl) rfl ?_
              refine ⟨rfl, rfl, _, rfl, ?_⟩
              rw [hsq]
              exact u7
            · exact absurd c52 (by decide)
      · exact absurd c23 (by decide)
  · have hk : ¬ s.tok = key := bI_0.mp c1
    have hsq : (partP t n key) s = .inr s.pl := by unfold partP; rw [if_neg hk]
    refine s_aload_n (tb_ok aX8_part_0 2 rfl) rfl ?_
    refine s_cV (as := []) (tb_ok aX8_part_0 3 rfl) v_RX8_187 (R_fail h) (by omega) rfl rfl rfl rfl rfl (Nat.le_of_ble_eq_true rfl) (by decide) (fun r6 S6 I6 L6 R6 q6 => ?_)
    obtain ⟨rfl, rfl, rfl, u8⟩ := q6
    refine s_aload_n (tb_ok aX8_part_0 4 rfl) rfl ?_
    refine s_getI (x := (1)) (tb_ok aX8_part_0 5 rfl) f_RX8_173 rfl rfl u8.2.1 ?_
    refine s_if_ne (tgt := 19) (tb_ok aX8_part_0 6 rfl) (by decide) (fun c12 => ?_) (fun c12 => ?_)
    · refine s_aload_n (tb_ok aX8_part_0 9 rfl) rfl ?_
      refine s_getI (x := (1)) (tb_ok aX8_part_0 10 rfl) f_RX8_173 rfl rfl u8.2.1 ?_
      refine s_if_eq (tgt := 30) (tb_ok aX8_part_0 11 rfl) (by decide) (fun c23 => ?_) (fun c23 => ?_)
      · exact absurd c23 (by decide)
      · refine s_iconst (v := 0) (tb_ok aX8_part_0 12 rfl) (by decide) ?_
        refine s_goto (tgt := 34) (tb_ok aX8_part_0 13 rfl) (by decide) ?_
        refine s_istore_n (ls' := [some (.ref 66), some (.int (bI (s.tok = key))), some (.int (0))]) (tb_ok aX8_part_0 16 rfl) rfl rfl ?_
        refine s_aload_n (tb_ok aX8_part_0 17 rfl) rfl ?_
        refine s_bipush (v := 59) (tb_ok aX8_part_0 18 rfl) (by decide) ?_
        refine s_cVp (as := [.int (59)]) (tb_ok aX8_part_0 19 rfl) v_RX8_215 (R_isSignE (I0 := I0) u8.2.1) (by omega) rfl rfl rfl rfl rfl (Nat.le_of_ble_eq_true rfl) (by decide) ?_
        refine s_if_ne (tgt := 48) (tb_ok aX8_part_0 20 rfl) (by decide) (fun c41 => ?_) (fun c41 => ?_)
        · exact absurd c41 (by decide)
        · refine s_aload_n (tb_ok aX8_part_0 21 rfl) rfl ?_
          refine s_cV (as := []) (tb_ok aX8_part_0 22 rfl) v_RX8_187 (R_failE u8) (by omega) rfl rfl rfl rfl rfl (Nat.le_of_ble_eq_true rfl) (by decide) (fun r7 S7 I7 L7 R7 q7 => ?_)
          obtain ⟨rfl, rfl, rfl, u9⟩ := q7
          refine s_aload_n (tb_ok aX8_part_0 23 rfl) rfl ?_
          refine s_getI (x := (1)) (tb_ok aX8_part_1 0 rfl) f_RX8_173 rfl rfl u9.2.1 ?_
          refine s_if_ne (tgt := 59) (tb_ok aX8_part_1 1 rfl) (by decide) (fun c52 => ?_) (fun c52 => ?_)
          · refine s_iload_n (tb_ok aX8_part_1 4 rfl) rfl ?_
            refine s_iret (tb_ok aX8_part_1 5 rfl) rfl ?_
            refine ⟨rfl, rfl, _, rfl, ?_⟩
            rw [hsq]
            exact u9
          · exact absurd c52 (by decide)
    · exact absurd c12 (by decide)

def ZT (nm : Nat → Int32) (w : Int32) : TR → Int32 → FI → Prop
  | .inl p, v, I => v = (if w = 0 then p.2.2.2.1 nm else if w = 1 then p.2.2.2.2.1 nm else p.2.2.2.2.2 nm) ∧ I 66 27 = 0
  | .inr f, _, I => I 66 27 = 1 ∧ I 66 28 = nI f
def AfR (q : Nat × Nat) (nm : Nat → Int32) (I0 : FI) (w : Int32) (res : TR) : Pst := fun r S' I' L' R' => S' = S0 ∧ R' = R0 q ∧ FrX I' I0 ∧ ∃ v, r = some (.int v) ∧ ZT nm w res v I'
theorem ROk.endd {t : Nat → Int32} {n o : Nat} {I0 I : FI} {L : FL} {s : St} (h : ROk t n o I0 s I L) : I 66 23 = 0 ↔ s.tok = 0 := by
  rcases h.2.2.2.2.2 with ⟨a, b⟩ | ⟨a, b⟩ | ⟨a, b, _⟩ | ⟨a, e, v0, _, _, _, _, b⟩ | ⟨a, b, _⟩
  · rw [a, b]
  · rw [a, b]; decide
  · rw [a, b]
  · rw [a]
    refine ⟨fun g => absurd g (by decide), fun g => ?_⟩
    exfalso
    rcases wdS_tok v0 (slc t s.pl (e - s.pl)) s.pl e with ⟨_, k⟩ | ⟨j, hj, _, k, _⟩ | ⟨j, hj, hj2, _, k⟩
    · rw [← b, g] at k; exact absurd k (by decide)
    · rw [← b, g] at k; exact absurd k (by decide)
    · rw [← b, g] at k
      have k : nI 0 = nI (j - 2) := k
      simp (disch := omega) only [nI_eq] at k
      omega
  · rw [b]
    exact ⟨fun g => absurd g (by decide), fun g => absurd g (sg_no a).1⟩
def hdX (I : FI) (T n : Nat) : FI := up2 (up2 I 66 20 (nI (160 * T))) 66 21 (nI n)
set_option maxRecDepth 100000 in
set_option maxHeartbeats 1000000 in
theorem R_read {X : En} {q : Nat × Nat} {I : FI} {L : FL} {T n : Nat} {t nm : Nat → Int32} (hT : TxX (hdX I T n) (160 * T) n t nm) (hsz : I 68 T = nI n) (hT6 : T < 6) (w v0 : Int32) : Ev X 51 mX8_read (0, 0) [.ref 66, .int (nI T), .int w] S0 I L (R0 q) (AfR q nm (hdX I T n) w (readP t n v0)) := by
  refine ev_of (by decide +kernel) rfl ?_
  show SW X _ _ _ 0 [some (.ref 66), some (.int (nI T)), some (.int w), none, none, none] [] S0 I L (R0 q) _
  refine s_aload_n (tb_ok aX8_read_0 0 rfl) rfl ?_
  refine s_sipush (v := nI 160) (tb_ok aX8_read_0 1 rfl) (by decide) ?_
  refine s_iload_n (tb_ok aX8_read_0 2 rfl) rfl ?_
  refine s_imul (tb_ok aX8_read_0 3 rfl) ?_
  refine s_topi (z := (nI (160 * T))) (nI_mul 160 T) ?_
  refine s_putI (tb_ok aX8_read_0 4 rfl) f_RX8_144 rfl rfl ?_
  refine s_aload_n (tb_ok aX8_read_0 5 rfl) rfl ?_
  refine s_aload_n (tb_ok aX8_read_0 6 rfl) rfl ?_
  refine s_getR (r := 68) (tb_ok aX8_read_0 7 rfl) f_RX8_17 rfl rfl rfl ?_
  refine s_iload_n (tb_ok aX8_read_0 8 rfl) rfl ?_
  refine s_ialdX (x := (nI n)) (tb_ok aX8_read_0 9 rfl) rfl (by omega) (by decide) hsz ?_
  refine s_putI (tb_ok aX8_read_0 10 rfl) f_RX8_141 rfl rfl ?_
  refine s_aload_n (tb_ok aX8_read_0 11 rfl) rfl ?_
  refine s_iconst (v := 0) (tb_ok aX8_read_0 12 rfl) (by decide) ?_
  refine s_putI (tb_ok aX8_read_0 13 rfl) f_RX8_147 rfl rfl ?_
  refine s_aload_n (tb_ok aX8_read_0 14 rfl) rfl ?_
  refine s_iconst (v := 0) (tb_ok aX8_read_0 15 rfl) (by decide) ?_
  refine s_putI (tb_ok aX8_read_0 16 rfl) f_RX8_184 rfl rfl ?_
  refine s_aload_n (tb_ok aX8_read_0 17 rfl) rfl ?_
  refine s_iconst (v := 0) (tb_ok aX8_read_0 18 rfl) (by decide) ?_
  refine s_putZ (tb_ok aX8_read_0 19 rfl) f_RX8_173 rfl rfl (Or.inl rfl) ?_
  have hm : RMd (hdX I T n) _ 0 0 _ _ := ⟨((FrX.put (k := 22) (fun _ _ _ => rfl) (by omega) (by omega) _).put (k := 26) (by omega) (by omega) _).put (k := 27) (by omega) (by omega) _, rfl, rfl, rfl, rfl, rfl⟩
  refine s_aload_n (tb_ok aX8_read_0 20 rfl) rfl ?_
  refine s_cV (as := []) (tb_ok aX8_read_0 21 rfl) v_RX8_190 (R_next0 hT hm (Nat.zero_le _) v0) (by decide) rfl rfl rfl rfl rfl (Nat.le_of_ble_eq_true rfl) (by decide) (fun r1 S1 I1 L1 R1 q1 => ?_)
  obtain ⟨rfl, rfl, rfl, u1⟩ := q1
  have hsq0 : readP t n v0 = readP t n v0 := rfl
  refine s_aload_n (tb_ok aX8_read_0 22 rfl) rfl ?_
  refine s_aload_n (tb_ok aX8_read_0 23 rfl) rfl ?_
  refine s_bipush (v := 102) (tb_ok aX8_read_1 0 rfl) (by decide) ?_
  refine s_bipush (v := 97) (tb_ok aX8_read_1 1 rfl) (by decide) ?_
  refine s_bipush (v := 108) (tb_ok aX8_read_1 2 rfl) (by decide) ?_
  refine s_bipush (v := 108) (tb_ok aX8_read_1 3 rfl) (by decide) ?_
  refine s_bipush (v := 115) (tb_ok aX8_read_1 4 rfl) (by decide) ?_
  refine s_iconst (v := 0) (tb_ok aX8_read_1 5 rfl) (by decide) ?_
  refine s_iconst (v := 0) (tb_ok aX8_read_1 6 rfl) (by decide) ?_
  refine s_iconst (v := 0) (tb_ok aX8_read_1 7 rfl) (by decide) ?_
  refine s_cVp (as := [.int (102), .int (97), .int (108), .int (108), .int (115), .int (0), .int (0), .int (0)]) (tb_ok aX8_read_1 8 rfl) v_RX8_193 (R_isWord hT u1 6 (by decide)) (by omega) rfl rfl rfl rfl rfl (Nat.le_of_ble_eq_true rfl) (by decide) ?_
  refine s_topi (bI_congr (isK_key (k := 6) (j := 4) (by decide) rfl)) ?_
  refine s_cV (as := [.int (bI (St.tok (lex t n 0 v0) = 4))]) (tb_ok aX8_read_1 9 rfl) v_RX8_338 (R_part hT u1 (by decide)) (by omega) rfl rfl rfl rfl rfl (Nat.le_of_ble_eq_true rfl) (by decide) (fun r2 S2 I2 L2 R2 q2 => ?_)
  obtain ⟨rfl, rfl, v2_, rfl, u2⟩ := q2
  cases e2_ : (partP t n 4) (lex t n 0 v0) with
  | inr g2_ =>
    rw [e2_] at u2
    have u2 : RBad (hdX I T n) g2_ _ := u2
    have hsq : readP t n v0 = .inr g2_ := by
      unfold readP
      rw [e2_]
    refine s_istore_n (ls' := [some (.ref 66), some (.int (nI T)), some (.int w), some (.int v2_), none, none]) (tb_ok aX8_read_1 10 rfl) rfl rfl ?_
    refine s_aload_n (tb_ok aX8_read_1 11 rfl) rfl ?_
    refine s_getI (x := (1)) (tb_ok aX8_read_1 12 rfl) f_RX8_173 rfl rfl u2.2.1 ?_
    refine s_if_eq (tgt := 71) (tb_ok aX8_read_1 13 rfl) (by decide) (fun c64 => ?_) (fun c64 => ?_)
    · exact absurd c64 (by decide)
    · refine s_iconst (v := 0) (tb_ok aX8_read_1 14 rfl) (by decide) ?_
      refine s_goto (tgt := 93) (tb_ok aX8_read_1 15 rfl) (by decide) ?_
      refine s_istore (ls' := [some (.ref 66), some (.int (nI T)), some (.int w), some (.int v2_), some (.int (0)), none]) (tb_ok aX8_read_2 4 rfl) rfl rfl ?_
      refine s_aload_n (tb_ok aX8_read_2 5 rfl) rfl ?_
      refine s_getI (x := (1)) (tb_ok aX8_read_2 6 rfl) f_RX8_173 rfl rfl u2.2.1 ?_
      refine s_if_eq (tgt := 106) (tb_ok aX8_read_2 7 rfl) (by decide) (fun c99 => ?_) (fun c99 => ?_)
      · exact absurd c99 (by decide)
      · refine s_iconst (v := 0) (tb_ok aX8_read_2 8 rfl) (by decide) ?_
        refine s_goto (tgt := 127) (tb_ok aX8_read_2 9 rfl) (by decide) ?_
        refine s_istore (ls' := [some (.ref 66), some (.int (nI T)), some (.int w), some (.int v2_), some (.int (0)), some (.int (0))]) (tb_ok aX8_read_2 22 rfl) rfl rfl ?_
        refine s_aload_n (tb_ok aX8_read_2 23 rfl) rfl ?_
        refine s_getI (x := (1)) (tb_ok aX8_read_3 0 rfl) f_RX8_173 rfl rfl u2.2.1 ?_
        refine s_if_ne (tgt := 147) (tb_ok aX8_read_3 1 rfl) (by decide) (fun c133 => ?_) (fun c133 => ?_)
        · refine s_iload_n (tb_ok aX8_read_3 7 rfl) rfl ?_
          refine s_if_ne (tgt := 155) (tb_ok aX8_read_3 8 rfl) (by decide) (fun c148 => ?_) (fun c148 => ?_)
          · refine s_iload_n (tb_ok aX8_read_3 11 rfl) rfl ?_
            refine s_iconst (v := 1) (tb_ok aX8_read_3 12 rfl) (by decide) ?_
            refine s_icmp_ne (tgt := 165) (tb_ok aX8_read_3 13 rfl) (by decide) (fun c157 => ?_) (fun c157 => ?_)
            · refine s_iload (tb_ok aX8_read_3 16 rfl) rfl ?_
              refine s_iret (tb_ok aX8_read_3 17 rfl) rfl ?_
              refine ⟨rfl, rfl, u2.1, _, rfl, ?_⟩
              rw [hsq]
              exact u2.2
            · refine s_iload (tb_ok aX8_read_3 14 rfl) rfl ?_
              refine s_goto (tgt := 167) (tb_ok aX8_read_3 15 rfl) (by decide) ?_
              refine s_iret (tb_ok aX8_read_3 17 rfl) rfl ?_
              refine ⟨rfl, rfl, u2.1, _, rfl, ?_⟩
              rw [hsq]
              exact u2.2
          · refine s_iload_n (tb_ok aX8_read_3 9 rfl) rfl ?_
            refine s_goto (tgt := 167) (tb_ok aX8_read_3 10 rfl) (by decide) ?_
            refine s_iret (tb_ok aX8_read_3 17 rfl) rfl ?_
            refine ⟨rfl, rfl, u2.1, _, rfl, ?_⟩
            rw [hsq]
            exact u2.2
        · exact absurd c133 (by decide)
  | inl qq =>
    obtain ⟨c2_, f2_, s2_⟩ := qq
    rw [e2_] at u2
    obtain ⟨w2_, u2⟩ := u2
    have w2_ : v2_ = f2_ nm := w2_
    have u2 : ROk t n 0 (hdX I T n) s2_ _ _ := u2
    refine s_istore_n (ls' := [some (.ref 66), some (.int (nI T)), some (.int w), some (.int v2_), none, none]) (tb_ok aX8_read_1 10 rfl) rfl rfl ?_
    refine s_aload_n (tb_ok aX8_read_1 11 rfl) rfl ?_
    refine s_getI (x := (0)) (tb_ok aX8_read_1 12 rfl) f_RX8_173 rfl rfl u2.2.2.1 ?_
    refine s_if_eq (tgt := 71) (tb_ok aX8_read_1 13 rfl) (by decide) (fun c64 => ?_) (fun c64 => ?_)
    · refine s_aload_n (tb_ok aX8_read_1 16 rfl) rfl ?_
      refine s_aload_n (tb_ok aX8_read_1 17 rfl) rfl ?_
      refine s_bipush (v := 114) (tb_ok aX8_read_1 18 rfl) (by decide) ?_
      refine s_bipush (v := 105) (tb_ok aX8_read_1 19 rfl) (by decide) ?_
      refine s_bipush (v := 112) (tb_ok aX8_read_1 20 rfl) (by decide) ?_
      refine s_bipush (v := 101) (tb_ok aX8_read_1 21 rfl) (by decide) ?_
      refine s_bipush (v := 110) (tb_ok aX8_read_1 22 rfl) (by decide) ?_
      refine s_bipush (v := 115) (tb_ok aX8_read_1 23 rfl) (by decide) ?_
      refine s_iconst (v := 0) (tb_ok aX8_read_2 0 rfl) (by decide) ?_
      refine s_iconst (v := 0) (tb_ok aX8_read_2 1 rfl) (by decide) ?_
      refine s_cVp (as := [.int (114), .int (105), .int (112), .int (101), .int (110), .int (115), .int (0), .int (0)]) (tb_ok aX8_read_2 2 rfl) v_RX8_193 (R_isWord hT u2 7 (by decide)) (by omega) rfl rfl rfl rfl rfl (Nat.le_of_ble_eq_true rfl) (by decide) ?_
      refine s_topi (bI_congr (isK_key (k := 7) (j := 5) (by decide) rfl)) ?_
      refine s_cV (as := [.int (bI (St.tok s2_ = 5))]) (tb_ok aX8_read_2 3 rfl) v_RX8_338 (R_part hT u2 (by decide)) (by omega) rfl rfl rfl rfl rfl (Nat.le_of_ble_eq_true rfl) (by decide) (fun r3 S3 I3 L3 R3 q3 => ?_)
      obtain ⟨rfl, rfl, v3_, rfl, u3⟩ := q3
      cases e3_ : (partP t n 5) s2_ with
      | inr g3_ =>
        rw [e3_] at u3
        have u3 : RBad (hdX I T n) g3_ _ := u3
        have hsq : readP t n v0 = .inr g3_ := by
          unfold readP
          rw [e2_]
          simp only [e3_]
        refine s_istore (ls' := [some (.ref 66), some (.int (nI T)), some (.int w), some (.int v2_), some (.int v3_), none]) (tb_ok aX8_read_2 4 rfl) rfl rfl ?_
        refine s_aload_n (tb_ok aX8_read_2 5 rfl) rfl ?_
        refine s_getI (x := (1)) (tb_ok aX8_read_2 6 rfl) f_RX8_173 rfl rfl u3.2.1 ?_
        refine s_if_eq (tgt := 106) (tb_ok aX8_read_2 7 rfl) (by decide) (fun c99 => ?_) (fun c99 => ?_)
        · exact absurd c99 (by decide)
        · refine s_iconst (v := 0) (tb_ok aX8_read_2 8 rfl) (by decide) ?_
          refine s_goto (tgt := 127) (tb_ok aX8_read_2 9 rfl) (by decide) ?_
          refine s_istore (ls' := [some (.ref 66), some (.int (nI T)), some (.int w), some (.int v2_), some (.int v3_), some (.int (0))]) (tb_ok aX8_read_2 22 rfl) rfl rfl ?_
          refine s_aload_n (tb_ok aX8_read_2 23 rfl) rfl ?_
          refine s_getI (x := (1)) (tb_ok aX8_read_3 0 rfl) f_RX8_173 rfl rfl u3.2.1 ?_
          refine s_if_ne (tgt := 147) (tb_ok aX8_read_3 1 rfl) (by decide) (fun c133 => ?_) (fun c133 => ?_)
          · refine s_iload_n (tb_ok aX8_read_3 7 rfl) rfl ?_
            refine s_if_ne (tgt := 155) (tb_ok aX8_read_3 8 rfl) (by decide) (fun c148 => ?_) (fun c148 => ?_)
            · refine s_iload_n (tb_ok aX8_read_3 11 rfl) rfl ?_
              refine s_iconst (v := 1) (tb_ok aX8_read_3 12 rfl) (by decide) ?_
              refine s_icmp_ne (tgt := 165) (tb_ok aX8_read_3 13 rfl) (by decide) (fun c157 => ?_) (fun c157 => ?_)
              · refine s_iload (tb_ok aX8_read_3 16 rfl) rfl ?_
                refine s_iret (tb_ok aX8_read_3 17 rfl) rfl ?_
                refine ⟨rfl, rfl, u3.1, _, rfl, ?_⟩
                rw [hsq]
                exact u3.2
              · refine s_iload (tb_ok aX8_read_3 14 rfl) rfl ?_
                refine s_goto (tgt := 167) (tb_ok aX8_read_3 15 rfl) (by decide) ?_
                refine s_iret (tb_ok aX8_read_3 17 rfl) rfl ?_
                refine ⟨rfl, rfl, u3.1, _, rfl, ?_⟩
                rw [hsq]
                exact u3.2
            · refine s_iload_n (tb_ok aX8_read_3 9 rfl) rfl ?_
              refine s_goto (tgt := 167) (tb_ok aX8_read_3 10 rfl) (by decide) ?_
              refine s_iret (tb_ok aX8_read_3 17 rfl) rfl ?_
              refine ⟨rfl, rfl, u3.1, _, rfl, ?_⟩
              rw [hsq]
              exact u3.2
          · exact absurd c133 (by decide)
      | inl qq =>
        obtain ⟨c3_, f3_, s3_⟩ := qq
        rw [e3_] at u3
        obtain ⟨w3_, u3⟩ := u3
        have w3_ : v3_ = f3_ nm := w3_
        have u3 : ROk t n 0 (hdX I T n) s3_ _ _ := u3
        refine s_istore (ls' := [some (.ref 66), some (.int (nI T)), some (.int w), some (.int v2_), some (.int v3_), none]) (tb_ok aX8_read_2 4 rfl) rfl rfl ?_
        refine s_aload_n (tb_ok aX8_read_2 5 rfl) rfl ?_
        refine s_getI (x := (0)) (tb_ok aX8_read_2 6 rfl) f_RX8_173 rfl rfl u3.2.2.1 ?_
        refine s_if_eq (tgt := 106) (tb_ok aX8_read_2 7 rfl) (by decide) (fun c99 => ?_) (fun c99 => ?_)
        · refine s_aload_n (tb_ok aX8_read_2 10 rfl) rfl ?_
          refine s_aload_n (tb_ok aX8_read_2 11 rfl) rfl ?_
          refine s_bipush (v := 116) (tb_ok aX8_read_2 12 rfl) (by decide) ?_
          refine s_bipush (v := 97) (tb_ok aX8_read_2 13 rfl) (by decide) ?_
          refine s_bipush (v := 107) (tb_ok aX8_read_2 14 rfl) (by decide) ?_
          refine s_bipush (v := 101) (tb_ok aX8_read_2 15 rfl) (by decide) ?_
          refine s_bipush (v := 115) (tb_ok aX8_read_2 16 rfl) (by decide) ?_
          refine s_iconst (v := 0) (tb_ok aX8_read_2 17 rfl) (by decide) ?_
          refine s_iconst (v := 0) (tb_ok aX8_read_2 18 rfl) (by decide) ?_
          refine s_iconst (v := 0) (tb_ok aX8_read_2 19 rfl) (by decide) ?_
          refine s_cVp (as := [.int (116), .int (97), .int (107), .int (101), .int (115), .int (0), .int (0), .int (0)]) (tb_ok aX8_read_2 20 rfl) v_RX8_193 (R_isWord hT u3 8 (by decide)) (by omega) rfl rfl rfl rfl rfl (Nat.le_of_ble_eq_true rfl) (by decide) ?_
          refine s_topi (bI_congr (isK_key (k := 8) (j := 6) (by decide) rfl)) ?_
          refine s_cV (as := [.int (bI (St.tok s3_ = 6))]) (tb_ok aX8_read_2 21 rfl) v_RX8_338 (R_part hT u3 (by decide)) (by omega) rfl rfl rfl rfl rfl (Nat.le_of_ble_eq_true rfl) (by decide) (fun r4 S4 I4 L4 R4 q4 => ?_)
          obtain ⟨rfl, rfl, v4_, rfl, u4⟩ := q4
          cases e4_ : (partP t n 6) s3_ with
          | inr g4_ =>
            rw [e4_] at u4
            have u4 : RBad (hdX I T n) g4_ _ := u4
            have hsq : readP t n v0 = .inr g4_ := by
              unfold readP
              rw [e2_]
              simp only [e3_]
              simp only [e4_]
            refine s_istore (ls' := [some (.ref 66), some (.int (nI T)), some (.int w), some (.int v2_), some (.int v3_), some (.int v4_)]) (tb_ok aX8_read_2 22 rfl) rfl rfl ?_
            refine s_aload_n (tb_ok aX8_read_2 23 rfl) rfl ?_
            refine s_getI (x := (1)) (tb_ok aX8_read_3 0 rfl) f_RX8_173 rfl rfl u4.2.1 ?_
            refine s_if_ne (tgt := 147) (tb_ok aX8_read_3 1 rfl) (by decide) (fun c133 => ?_) (fun c133 => ?_)
            · refine s_iload_n (tb_ok aX8_read_3 7 rfl) rfl ?_
              refine s_if_ne (tgt := 155) (tb_ok aX8_read_3 8 rfl) (by decide) (fun c148 => ?_) (fun c148 => ?_)
              · refine s_iload_n (tb_ok aX8_read_3 11 rfl) rfl ?_
                refine s_iconst (v := 1) (tb_ok aX8_read_3 12 rfl) (by decide) ?_
                refine s_icmp_ne (tgt := 165) (tb_ok aX8_read_3 13 rfl) (by decide) (fun c157 => ?_) (fun c157 => ?_)
                · refine s_iload (tb_ok aX8_read_3 16 rfl) rfl ?_
                  refine s_iret (tb_ok aX8_read_3 17 rfl) rfl ?_
                  refine ⟨rfl, rfl, u4.1, _, rfl, ?_⟩
                  rw [hsq]
                  exact u4.2
                · refine s_iload (tb_ok aX8_read_3 14 rfl) rfl ?_
                  refine s_goto (tgt := 167) (tb_ok aX8_read_3 15 rfl) (by decide) ?_
                  refine s_iret (tb_ok aX8_read_3 17 rfl) rfl ?_
                  refine ⟨rfl, rfl, u4.1, _, rfl, ?_⟩
                  rw [hsq]
                  exact u4.2
              · refine s_iload_n (tb_ok aX8_read_3 9 rfl) rfl ?_
                refine s_goto (tgt := 167) (tb_ok aX8_read_3 10 rfl) (by decide) ?_
                refine s_iret (tb_ok aX8_read_3 17 rfl) rfl ?_
                refine ⟨rfl, rfl, u4.1, _, rfl, ?_⟩
                rw [hsq]
                exact u4.2
            · exact absurd c133 (by decide)
          | inl qq =>
            obtain ⟨c4_, f4_, s4_⟩ := qq
            rw [e4_] at u4
            obtain ⟨w4_, u4⟩ := u4
            have w4_ : v4_ = f4_ nm := w4_
            have u4 : ROk t n 0 (hdX I T n) s4_ _ _ := u4
            refine s_istore (ls' := [some (.ref 66), some (.int (nI T)), some (.int w), some (.int v2_), some (.int v3_), some (.int v4_)]) (tb_ok aX8_read_2 22 rfl) rfl rfl ?_
            refine s_aload_n (tb_ok aX8_read_2 23 rfl) rfl ?_
            refine s_getI (x := (0)) (tb_ok aX8_read_3 0 rfl) f_RX8_173 rfl rfl u4.2.2.1 ?_
            refine s_if_ne (tgt := 147) (tb_ok aX8_read_3 1 rfl) (by decide) (fun c133 => ?_) (fun c133 => ?_)
            · exact absurd c133 (by decide)
            · refine s_aload_n (tb_ok aX8_read_3 2 rfl) rfl ?_
              refine s_getI (tb_ok aX8_read_3 3 rfl) f_RX8_156 rfl rfl rfl ?_
              refine s_if_eq (tgt := 147) (tb_ok aX8_read_3 4 rfl) (by decide) (fun c140 => ?_) (fun c140 => ?_)
              · refine s_iload_n (tb_ok aX8_read_3 7 rfl) rfl ?_
                refine s_if_ne (tgt := 155) (tb_ok aX8_read_3 8 rfl) (by decide) (fun c148 => ?_) (fun c148 => ?_)
                · refine s_iload_n (tb_ok aX8_read_3 11 rfl) rfl ?_
                  refine s_iconst (v := 1) (tb_ok aX8_read_3 12 rfl) (by decide) ?_
                  refine s_icmp_ne (tgt := 165) (tb_ok aX8_read_3 13 rfl) (by decide) (fun c157 => ?_) (fun c157 => ?_)
                  · refine s_iload (tb_ok aX8_read_3 16 rfl) rfl ?_
                    refine s_iret (tb_ok aX8_read_3 17 rfl) rfl ?_
                    have hz : s4_.tok = 0 := u4.endd.mp c140
                    have hsq : readP t n v0 = .inl (c2_, c3_, c4_, f2_, f3_, f4_) := by
                      unfold readP
                      rw [e2_]
                      simp only [e3_]
                      simp only [e4_]
                      rw [if_pos hz]
                    refine ⟨rfl, rfl, u4.1, _, rfl, ?_⟩
                    rw [hsq]
                    refine ⟨?_, u4.2.2.1⟩
                    show _ = if w = 0 then _ else if w = 1 then _ else _
                    rw [if_neg c148, if_neg c157]
                    exact w4_
                  · refine s_iload (tb_ok aX8_read_3 14 rfl) rfl ?_
                    refine s_goto (tgt := 167) (tb_ok aX8_read_3 15 rfl) (by decide) ?_
                    refine s_iret (tb_ok aX8_read_3 17 rfl) rfl ?_
                    have hz : s4_.tok = 0 := u4.endd.mp c140
                    have hsq : readP t n v0 = .inl (c2_, c3_, c4_, f2_, f3_, f4_) := by
                      unfold readP
                      rw [e2_]
                      simp only [e3_]
                      simp only [e4_]
                      rw [if_pos hz]
                    refine ⟨rfl, rfl, u4.1, _, rfl, ?_⟩
                    rw [hsq]
                    refine ⟨?_, u4.2.2.1⟩
                    show _ = if w = 0 then _ else if w = 1 then _ else _
                    rw [if_neg c148, if_pos c157]
                    exact w3_
                · refine s_iload_n (tb_ok aX8_read_3 9 rfl) rfl ?_
                  refine s_goto (tgt := 167) (tb_ok aX8_read_3 10 rfl) (by decide) ?_
                  refine s_iret (tb_ok aX8_read_3 17 rfl) rfl ?_
                  have hz : s4_.tok = 0 := u4.endd.mp c140
                  have hsq : readP t n v0 = .inl (c2_, c3_, c4_, f2_, f3_, f4_) := by
                    unfold readP
                    rw [e2_]
                    simp only [e3_]
                    simp only [e4_]
                    rw [if_pos hz]
                  refine ⟨rfl, rfl, u4.1, _, rfl, ?_⟩
                  rw [hsq]
                  refine ⟨?_, u4.2.2.1⟩
                  show _ = if w = 0 then _ else if w = 1 then _ else _
                  rw [if_pos c148]
                  exact w2_
              · have hz : ¬ s4_.tok = 0 := fun e_ => c140 (u4.endd.mpr e_)
                have hsq : readP t n v0 = .inr s4_.pl := by
                  unfold readP
                  rw [e2_]
                  simp only [e3_]
                  simp only [e4_]
                  rw [if_neg hz]
                refine s_aload_n (tb_ok aX8_read_3 5 rfl) rfl ?_
                refine s_cV (as := []) (tb_ok aX8_read_3 6 rfl) v_RX8_187 (R_fail u4) (by omega) rfl rfl rfl rfl rfl (Nat.le_of_ble_eq_true rfl) (by decide) (fun r5 S5 I5 L5 R5 q5 => ?_)
                obtain ⟨rfl, rfl, rfl, u5⟩ := q5
                refine s_iload_n (tb_ok aX8_read_3 7 rfl) rfl ?_
                refine s_if_ne (tgt := 155) (tb_ok aX8_read_3 8 rfl) (by decide) (fun c148 => ?_) (fun c148 => ?_)
                · refine s_iload_n (tb_ok aX8_read_3 11 rfl) rfl ?_
                  refine s_iconst (v := 1) (tb_ok aX8_read_3 12 rfl) (by decide) ?_
                  refine s_icmp_ne (tgt := 165) (tb_ok aX8_read_3 13 rfl) (by decide) (fun c157 => ?_) (fun c157 => ?_)
                  · refine s_iload (tb_ok aX8_read_3 16 rfl) rfl ?_
                    refine s_iret (tb_ok aX8_read_3 17 rfl) rfl ?_
                    refine ⟨rfl, rfl, u5.1, _, rfl, ?_⟩
                    rw [hsq]
                    exact u5.2
                  · refine s_iload (tb_ok aX8_read_3 14 rfl) rfl ?_
                    refine s_goto (tgt := 167) (tb_ok aX8_read_3 15 rfl) (by decide) ?_
                    refine s_iret (tb_ok aX8_read_3 17 rfl) rfl ?_
                    refine ⟨rfl, rfl, u5.1, _, rfl, ?_⟩
                    rw [hsq]
                    exact u5.2
                · refine s_iload_n (tb_ok aX8_read_3 9 rfl) rfl ?_
                  refine s_goto (tgt := 167) (tb_ok aX8_read_3 10 rfl) (by decide) ?_
                  refine s_iret (tb_ok aX8_read_3 17 rfl) rfl ?_
                  refine ⟨rfl, rfl, u5.1, _, rfl, ?_⟩
                  rw [hsq]
                  exact u5.2
        · exact absurd c99 (by decide)
    · exact absurd c64 (by decide)
