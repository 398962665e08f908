/-! the Reader: a text read into a rule -/
theorem stpN_L {nm co : Nat → Int32} : ∀ (c : List Int32) (i : Nat) (s : Nat × (Nat → Int32)), (∀ j, j < c.length → co (i + j) = c.getD j 0) → stpN nm co c.length i s = runL nm c s := by
  intro c
  induction c with
  | nil => intro i s _; rfl
  | cons x c ih =>
    intro i s h
    have h0 : co i = x := h 0 (by simp)
    show stpN nm co c.length (i + 1) (stp nm (co i) s.1 s.2) = runL nm c (stp nm x s.1 s.2)
    rw [h0]
    refine ih (i + 1) _ (fun j hj => ?_)
    have := h (j + 1) (by simp only [List.length_cons]; omega)
    rw [show i + 1 + j = i + (j + 1) by omega, this]
    rfl
theorem val_good {nm co w : Nat → Int32} {c : List Int32} {x : Int32} {lo hi : Nat} (hg : Good 31 c x nm) (hh : hi = lo + c.length) (h : ∀ j, j < c.length → co (lo + j) = c.getD j 0) : valV (runV nm co w lo hi) = x := by
  subst hh
  unfold runV
  rw [show lo + c.length - lo = c.length by omega, stpN_L c lo (0, w) h]
  obtain ⟨w', e1, e2, _⟩ := hg 0 w (by omega)
  rw [e1]
  exact e2
theorem gd_l {a b : List Int32} {j : Nat} (h : j < a.length) : (a ++ b).getD j 0 = a.getD j 0 := by
  rw [List.getD_eq_getElem?_getD, List.getD_eq_getElem?_getD, List.getElem?_append_left h]
theorem gd_r {a b : List Int32} {j : Nat} : (a ++ b).getD (a.length + j) 0 = b.getD j 0 := by
  rw [List.getD_eq_getElem?_getD, List.getD_eq_getElem?_getD, List.getElem?_append_right (by omega), Nat.add_sub_cancel_left]
def sem3 (v1 v2 v3 : Sem) : Nat → Sem := fun pt => if pt = 0 then v1 else if pt = 1 then v2 else v3
def FrR (r : Nat) (I I' : FI) : Prop := (∀ a, a ≠ 62 → a ≠ r → a ≠ r + 1 → a ≠ r + 2 → I' a = I a) ∧ I' 62 1 = I 62 1
def RdQ (r : Nat) (I : FI) (S : Sh) (L : FL) (R : FR) (t : TR) : Pst := fun r' S' I' L' R' => S' = S ∧ L' = L ∧ R' = R ∧ FrR r I I' ∧ match t with
  | .inr f => r' = some (.int (nI f))
  | .inl q => r' = some (.int (-1)) ∧ okRule I' r (sem3 q.2.2.2.1 q.2.2.2.2.1 q.2.2.2.2.2)
theorem RI_start {I : FI} {r n : Nat} (hn : I 62 1 = nI n) (hr : r + 3 < 62) : OKs r n I [] (lex (I 63) n 0 (I 62 6)) (setO (up2 (up2 (up2 I r 3 0) 62 7 (-1)) 62 3 0) 62 (rdS ((up2 (up2 (up2 I r 3 0) 62 7 (-1)) 62 3 0) 62) (lex (I 63) n 0 (I 62 6)))) := by
  refine ⟨⟨fun a a1 a2 a3 => by rw [setO_n a1, up2_n _ _ a1, up2_n _ _ a1, up2_n _ _ a2], ?_⟩, (lex_wf (Nat.zero_le n) _).1, by rw [setO_o]; rfl, by rw [setO_o]; rfl, by rw [setO_o]; rfl, by rw [setO_o]; rfl, ?_, ?_, fun j hj => absurd hj (Nat.not_lt_zero j)⟩
  · rw [setO_o]
    show up2 (up2 (up2 I r 3 0) 62 7 (-1)) 62 3 0 62 1 = _
    rw [up2_nn _ _ (by omega), up2_nn _ _ (by omega), up2_nn _ _ (by omega)]
  · rw [setO_o]
    show up2 (up2 (up2 I r 3 0) 62 7 (-1)) 62 3 0 62 7 = _
    rw [up2_nn _ _ (by omega), up2_oo]
  · rw [setO_n (by omega), up2_n _ _ (by omega), up2_n _ _ (by omega), up2_oo]
    rfl
theorem read_ok {I I' : FI} {r n : Nat} {c1 c2 c3 : List Int32} {v1 v2 v3 : Sem} {s : St} (hr : r + 3 < 62) (hn2 : n ≤ 160) (h : OKs r n (up2 (up2 (up2 I (r + 2) 0 (nI c1.length)) (r + 2) 1 (nI (c1 ++ c2).length)) (r + 2) 2 (nI (c1 ++ c2 ++ c3).length)) (c1 ++ c2 ++ c3) s I') (hl : c1.length + c2.length + c3.length ≤ n) (hg : ∀ nm, Good 31 c1 (v1 nm) nm ∧ Good 31 c2 (v2 nm) nm ∧ Good 31 c3 (v3 nm) nm) : FrR r I I' ∧ okRule I' r (sem3 v1 v2 v3) := by
  obtain ⟨h1, h2, h3, h4, h5, h6, h7, h8, h9⟩ := h
  refine ⟨⟨fun a a1 a2 a3 a4 => by rw [h1.1 a a1 a2 a3, up2_n _ _ a4, up2_n _ _ a4, up2_n _ _ a4], by rw [h1.2, up2_n _ _ (by omega), up2_n _ _ (by omega), up2_n _ _ (by omega)]⟩, ?_⟩
  have e2 := h1.1 (r + 2) (by omega) (by omega) (by omega)
  refine ⟨fun j => if j = 0 then c1.length else if j = 1 then c1.length + c2.length else c1.length + c2.length + c3.length, fun j hj => ?_, ?_, ?_, ?_, ?_⟩
  · rw [e2]
    match j, hj with
    | 0, _ => simp [up2]
    | 1, _ => simp [up2, List.length_append]
    | 2, _ => simp [up2, List.length_append, Nat.add_assoc]
  · simp
  · simp
  · simp; omega
  · intro pt hp nm w
    obtain ⟨k1, k2, k3⟩ := hg nm
    have hc : ∀ j, j < (c1 ++ c2 ++ c3).length → I' (r + 1) j = (c1 ++ c2 ++ c3).getD j 0 := h9
    simp only [List.length_append] at hc
    match pt, hp with
    | 0, _ => exact val_good k1 (by simp) (fun j hj => by
        show I' (r + 1) (0 + j) = _
        rw [Nat.zero_add, hc j (by omega), List.append_assoc, gd_l hj])
    | 1, _ => exact val_good k2 (by simp) (fun j hj => by
        show I' (r + 1) (c1.length + j) = _
        rw [hc _ (by omega), List.append_assoc, gd_r, gd_l hj])
    | 2, _ => exact val_good k3 (by simp) (fun j hj => by
        show I' (r + 1) (c1.length + c2.length + j) = _
        rw [hc _ (by omega), ← List.length_append, gd_r])
set_option maxRecDepth 100000 in
set_option maxHeartbeats 1000000 in
theorem E_readInto {X : En} {S : Sh} {I : FI} {L : FL} {R : FR} {r n : Nat} (s1 : S[62]? = some (2, 8)) (s2 : R 62 0 = some 63) (s3 : S[63]? = some (9, 160)) (s4 : isRule S R r) (s5 : r + 3 < 62) (hn : I 62 1 = nI n) (hn2 : n ≤ 160) : Ev X 57 mX2_readInto (0, 0) [.ref 62, .ref r] S I L R (RdQ r I S L (up2 R 62 2 (some r)) (readP (I 63) n (I 62 6))) := by
  have er : ∀ {A : FI} {f : Nat}, (∀ a, a ≠ r + 2 → A a = I a) → (hE : readP (I 63) n (I 62 6) = .inr f) → ∀ I2, ERs r A f I2 → RdQ r I S L (up2 R 62 2 (some r)) (readP (I 63) n (I 62 6)) (some (.int (nI f))) S I2 L (up2 R 62 2 (some r)) := by
    intro A f hA hE I2 h2
    rw [hE]
    exact ⟨rfl, rfl, rfl, ⟨fun a a1 a2 a3 a4 => by rw [h2.1.1 a a1 a2 a3]; exact hA a a4, by rw [h2.1.2, hA 62 (by omega)]⟩, rfl⟩
  have s4R : isRule S (up2 R 62 2 (some r)) r := by
    obtain ⟨t1, t2, t3, t4, t5, t6, t7⟩ := s4
    exact ⟨t1, by rw [up2_n _ _ (by omega)]; exact t2, t3, by rw [up2_n _ _ (by omega)]; exact t4, t5, by rw [up2_n _ _ (by omega)]; exact t6, t7⟩
  have hR : isRead S (up2 R 62 2 (some r)) r := ⟨s1, by rw [up2_nn _ _ (by omega)]; exact s2, s3, by rw [up2_oo], s4R, s5⟩
  have hr63 : (up2 (up2 (up2 I r 3 0) 62 7 (-1)) 62 3 0) 63 = I 63 := by rw [up2_n _ _ (by omega), up2_n _ _ (by omega), up2_n _ _ (by omega)]
  have hr6 : (up2 (up2 (up2 I r 3 0) 62 7 (-1)) 62 3 0) 62 6 = I 62 6 := by rw [up2_nn _ _ (by omega), up2_nn _ _ (by omega), up2_nn _ _ (by omega)]
  refine ev_of (by decide +kernel) rfl ?_
  show SW X _ _ _ 0 [some (.ref 62), some (.ref r), none] [] S I L R _
  refine s_aload_n (tb_ok aX2_readInto_0 0 rfl) rfl ?_
  refine s_aload_n (tb_ok aX2_readInto_0 1 rfl) rfl ?_
  refine s_putR (tb_ok aX2_readInto_0 2 rfl) f_RX2_22 s1 rfl ?_
  refine s_aload_n (tb_ok aX2_readInto_0 3 rfl) rfl ?_
  refine s_getR (r := r) (tb_ok aX2_readInto_0 4 rfl) f_RX2_22 s1 rfl (by simp [up2]) ?_
  refine s_cV (as := []) (tb_ok aX2_readInto_0 5 rfl) v_RX2_26 (E_Uclear s4R) (by decide) s4.1 rfl rfl rfl rfl (Nat.le_of_ble_eq_true rfl) (by decide) (fun r1 S1 I1 L1 R1 q1 => ?_)
  obtain ⟨rfl, rfl, rfl, rfl, rfl⟩ := q1
  refine s_aload_n (tb_ok aX2_readInto_0 6 rfl) rfl ?_
  refine s_iconst (v := -1) (tb_ok aX2_readInto_0 7 rfl) (by decide) ?_
  refine s_putI (tb_ok aX2_readInto_0 8 rfl) f_RX2_19 s1 rfl ?_
  refine s_aload_n (tb_ok aX2_readInto_0 9 rfl) rfl ?_
  refine s_iconst (v := 0) (tb_ok aX2_readInto_0 10 rfl) (by decide) ?_
  refine s_putI (tb_ok aX2_readInto_0 11 rfl) f_RX2_31 s1 rfl ?_
  refine s_aload_n (tb_ok aX2_readInto_0 12 rfl) rfl ?_
  refine s_cV (as := []) (tb_ok aX2_readInto_0 13 rfl) v_RX2_34 (E_adv hR (n := n) (i := 0) (by rw [up2_nn _ _ (by omega), up2_nn _ _ (by omega), up2_nn _ _ (by omega)]; exact hn) hn2 (Nat.zero_le _) (by rw [up2_oo]; rfl) (by rw [up2_nn _ _ (by omega), up2_oo])) (by decide) s1 rfl rfl rfl rfl (Nat.le_of_ble_eq_true rfl) (by decide) (fun r2 S2 I2 L2 R2 q2 => ?_)
  obtain ⟨rfl, rfl, rfl, rfl, rfl⟩ := q2
  refine s_iconst (v := nI 0) (tb_ok aX2_readInto_0 14 rfl) (by decide) ?_
  refine s_istore_n (ls' := [some (.ref 62), some (.ref r), some (.int (nI 0))]) (tb_ok aX2_readInto_0 15 rfl) rfl rfl ?_
  rw [hr63, hr6]
  have hs := RI_start (I := I) (r := r) hn s5
  have hnice := read_nice (I 63) n (I 62 6)
  have b1 : (4 : Int32) + nI 0 = 4 := by decide
  have b2 : (4 : Int32) + nI 1 = 5 := by decide
  have b3 : (4 : Int32) + nI 2 = 6 := by decide
  have u1 : ∀ (A : FI) (p : Nat) (x : Int32), up2 A (r + 2) p x 63 = A 63 := fun A p x => up2_n _ _ (by omega)
  have u2 : ∀ (A : FI) (p : Nat) (x : Int32), up2 A (r + 2) p x 62 1 = A 62 1 := fun A p x => by rw [up2_n _ _ (by omega)]
  refine RI_part (p := 0) hR hn hn2 (by decide) hs (Nat.zero_le _) (fun I2 f x hp he => ?_) (fun I2 c1 v1 z1 hp1 k1 l1 => ?_)
  · rw [b1] at hp
    exact RI_er hR (by omega) he (er (fun a ha => up2_n _ _ ha) (by unfold readP; rw [hp]))
  rw [b1] at hp1
  rw [List.nil_append] at k1
  refine RI_part (p := 1) hR (n := n) (by rw [u2]; exact hn) hn2 (by decide) k1 (by omega) (fun I2 f x hp he => ?_) (fun I2 c2 v2 z2 hp2 k2 l2 => ?_)
  · rw [b2, u1] at hp
    exact RI_er hR (by omega) he (er (fun a ha => by rw [up2_n _ _ ha, up2_n _ _ ha]) (by unfold readP; rw [hp1]; simp only [hp]))
  rw [b2, u1] at hp2
  refine RI_part (p := 2) hR (n := n) (by rw [u2, u2]; exact hn) hn2 (by decide) k2 (by rw [List.length_append]; omega) (fun I2 f x hp he => ?_) (fun I2 c3 v3 z3 hp3 k3 l3 => ?_)
  · rw [b3, u1, u1] at hp
    exact RI_er hR (by omega) he (er (fun a ha => by rw [up2_n _ _ ha, up2_n _ _ ha, up2_n _ _ ha]) (by unfold readP; rw [hp1]; simp only [hp2]; rw [hp]))
  rw [b3, u1, u1] at hp3
  refine RI_end hR (n := n) (by rw [u2, u2, u2]; exact hn) hn2 (by omega) k3 (by simp only [List.length_append]; omega) (fun hz => ?_) (fun hz I3 k4 => ?_)
  · exact er (fun a ha => by rw [up2_n _ _ ha, up2_n _ _ ha, up2_n _ _ ha]) (by unfold readP; rw [hp1]; simp only [hp2]; rw [hp3]; simp only [if_neg hz])
  · have hE : readP (I 63) n (I 62 6) = .inl (c1, c2, c3, v1, v2, v3) := by unfold readP; rw [hp1]; simp only [hp2]; rw [hp3]; simp only [if_pos hz]
    rw [hE] at hnice ⊢
    obtain ⟨m1, m2⟩ := read_ok s5 hn2 k4 hnice.1 hnice.2
    exact ⟨rfl, rfl, rfl, m1, rfl, m2⟩
