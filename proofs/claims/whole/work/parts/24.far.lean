/-! what lies far: the two texts, the table of kinds -/
theorem xa_far (X : En) {o i : Nat} (h : o = 1000000 + i) : xa X o = xe X i := by
  subst h
  unfold xa
  rw [if_neg (by omega), show 1000000 + i - 1000000 = i by omega]
theorem cvS_far (X : En) {o i : Nat} (h : o = 1000000 + i) (st : List Value) : cvS X (.ref o :: st) = .ref (xe X i) :: cvS X st := by
  show Value.ref (xa X o) :: _ = _
  rw [xa_far X h]
section FAR
variable {X : En} {d : Nat} {y : MD} {b : Nat × Nat} {pc : Nat} {ls : List (Option Value)} {st : List Value} {S : Sh} {I : FI} {L : FL} {R : FR} {K : Kt}
theorem s_i2c {x : Int32} (h : decode (yb y) pc = .ok (.i2c, 1)) (kk : SW X d y b (pc + 1) ls (.int (x.toUInt32 % 65536).toInt32 :: st) S I L R K) : SW X d y b pc ls (.int x :: st) S I L R K := by
  intro p e Rm s m args below meth c0 H locs cells slots la hC hRm hW hS hl
  exact lv_i2c hC.1 hC.2.1 h rfl (kk p e Rm s m args below meth c0 H locs cells slots la hC hRm hW hS hl)
theorem s_ldcW (h : decode (yb y) pc = .ok (.ldc 107, 2)) (hy : (yn y).cls = RX2) (kk : SW X d y b (pc + 2) ls (.ref 1000000 :: st) S I L R K) : SW X d y b pc ls st S I L R K := by
  intro p e Rm s m args below meth c0 H locs cells slots la hC hRm hW hS hl
  have k0 := kk p e Rm s m args below meth c0 H locs cells slots la hC hRm hW hS hl
  rw [cvS_far X (i := 0) rfl] at k0
  exact va_ldcS hC.1 hC.2.1 (hy ▸ hC.2.2.2.2.1) hC.2.2.2.2.2.2.2.2.2.2.1 h k0
theorem s_ldcF (h : decode (yb y) pc = .ok (.ldc 73, 2)) (hy : (yn y).cls = RX7) (kk : SW X d y b (pc + 2) ls (.ref 1000001 :: st) S I L R K) : SW X d y b pc ls st S I L R K := by
  intro p e Rm s m args below meth c0 H locs cells slots la hC hRm hW hS hl
  have k0 := kk p e Rm s m args below meth c0 H locs cells slots la hC hRm hW hS hl
  rw [cvS_far X (i := 1) rfl] at k0
  exact va_ldcS hC.1 hC.2.1 (hy ▸ hC.2.2.2.2.1) hC.2.2.2.2.2.2.2.2.2.2.2.1 h k0
theorem s_txV {i : Nat} (hi : i < 2) (h : decode (yb y) pc = .ok (.getfield 9, 3)) (hy : (yn y).cls = RJ0) (kk : SW X d y b (pc + 3) ls (.ref (1000010 + i) :: st) S I L R K) : SW X d y b pc ls (.ref (1000000 + i) :: st) S I L R K := by
  intro p e Rm s m args below meth c0 H locs cells slots la hC hRm hW hS hl
  have k0 := kk p e Rm s m args below meth c0 H locs cells slots la hC hRm hW hS hl
  rw [cvS_far X (i := 10 + i) (by omega)] at k0
  rw [cvS_far X (i := i) rfl]
  obtain ⟨_, _, hT, _⟩ := hC.2.2.2.2.2.2.2.2.2.2
  exact vk_getf hC.1 hC.2.1 (hT.1 i hi).2.2.1 hS (hy ▸ hC.2.2.2.2.1) (hC.2.2.2.2.2.1 _ x_RJ0_9) (fun x hx => hx) h k0
theorem s_txC {i : Nat} (hi : i < 2) (h : decode (yb y) pc = .ok (.getfield 15, 3)) (hy : (yn y).cls = RJ0) (kk : SW X d y b (pc + 3) ls (.int 0 :: st) S I L R K) : SW X d y b pc ls (.ref (1000000 + i) :: st) S I L R K := by
  intro p e Rm s m args below meth c0 H locs cells slots la hC hRm hW hS hl
  have k0 := kk p e Rm s m args below meth c0 H locs cells slots la hC hRm hW hS hl
  rw [cvS_far X (i := i) rfl]
  obtain ⟨_, _, hT, _⟩ := hC.2.2.2.2.2.2.2.2.2.2
  exact vk_getf hC.1 hC.2.1 (hT.1 i hi).2.1 hS (hy ▸ hC.2.2.2.2.1) (hC.2.2.2.2.2.1 _ x_RJ0_15) (fun x hx => hx) h k0
theorem s_txL {i n : Nat} (hi : i < 2) (hn : lenS.getD i 0 = n) (h : decode (yb y) pc = .ok (.arraylength, 1)) (kk : SW X d y b (pc + 1) ls (.int (nI n) :: st) S I L R K) : SW X d y b pc ls (.ref (1000010 + i) :: st) S I L R K := by
  subst hn
  intro p e Rm s m args below meth c0 H locs cells slots la hC hRm hW hS hl
  have k0 := kk p e Rm s m args below meth c0 H locs cells slots la hC hRm hW hS hl
  rw [cvS_far X (i := 10 + i) (by omega)]
  obtain ⟨_, _, hT, _⟩ := hC.2.2.2.2.2.2.2.2.2.2
  exact va_tlen hC.1 hC.2.1 (hT.1 i hi).2.2.2 hS rfl h k0
theorem s_txB {i k : Nat} (hi : i < 2) (hk : k < lenS.getD i 0) (h : decode (yb y) pc = .ok (.baload, 1)) (kk : SW X d y b (pc + 1) ls (.int ((bytS.getD i []).getD k 0) :: st) S I L R K) : SW X d y b pc ls (.int (nI k) :: .ref (1000010 + i) :: st) S I L R K := by
  intro p e Rm s m args below meth c0 H locs cells slots la hC hRm hW hS hl
  have k0 := kk p e Rm s m args below meth c0 H locs cells slots la hC hRm hW hS hl
  have e1 : cvS X (.int (nI k) :: .ref (1000010 + i) :: st) = .int (nI k) :: .ref (xe X (10 + i)) :: cvS X st := congrArg (List.cons _) (cvS_far X (by omega) st)
  rw [e1]
  obtain ⟨_, _, hT, _⟩ := hC.2.2.2.2.2.2.2.2.2.2
  have h64 : lenS.getD i 0 ≤ 64 := by
    match i, hi with
    | 0, _ => decide
    | 1, _ => decide
  exact va_tb hC.1 hC.2.1 (hT.1 i hi).2.2.2 hS (vp_in_nI hk (by omega)) (by rw [nI_clamp (by omega)]; rfl) h k0
theorem s_txS (h : decode (yb y) pc = .ok (.getstatic 38, 3)) (hy : (yn y).cls = RJ0) (kk : SW X d y b (pc + 3) ls (.int 1 :: st) S I L R K) : SW X d y b pc ls st S I L R K := by
  intro p e Rm s m args below meth c0 H locs cells slots la hC hRm hW hS hl
  have k0 := kk p e Rm s m args below meth c0 H locs cells slots la hC hRm hW hS hl
  obtain ⟨_, _, _, hZ, _⟩ := hC.2.2.2.2.2.2.2.2.2.2
  exact va_gets hC.1 hC.2.1 hZ hS (hy ▸ hC.2.2.2.2.1) (hC.2.2.2.2.2.1 _ x_RJ0_38) (fun x hx => hx) h k0
theorem s_txF (h : decode (yb y) pc = .ok (.getstatic 1053, 3)) (hy : (yn y).cls = RJ0) (kk : ∀ v : Value, v = .null ∨ v = .ref 1000030 → SW X d y b (pc + 3) ls (v :: st) S I L R K) : SW X d y b pc ls st S I L R K := by
  intro p e Rm s m args below meth c0 H locs cells slots la hC hRm hW hS hl
  obtain ⟨_, _, _, _, hZ, _⟩ := hC.2.2.2.2.2.2.2.2.2.2
  rcases hZ with hZ | hZ
  · have k0 := kk .null (Or.inl rfl) p e Rm s m args below meth c0 H locs cells slots la hC hRm hW hS hl
    exact va_gets hC.1 hC.2.1 hZ hS (hy ▸ hC.2.2.2.2.1) (hC.2.2.2.2.2.1 _ x_RJ0_1053) (fun x hx => hx) h k0
  · have k0 := kk (.ref 1000030) (Or.inr rfl) p e Rm s m args below meth c0 H locs cells slots la hC hRm hW hS hl
    rw [cvS_far X (i := 30) rfl] at k0
    exact va_gets hC.1 hC.2.1 hZ hS (hy ▸ hC.2.2.2.2.1) (hC.2.2.2.2.2.1 _ x_RJ0_1053) (fun x hx => hx) h k0
theorem s_abS (h : decode (yb y) pc = .ok (.getstatic 27, 3)) (hy : (yn y).cls = RX5) (kk : SW X d y b (pc + 3) ls (.ref 1000020 :: st) S I L R K) : SW X d y b pc ls st S I L R K := by
  intro p e Rm s m args below meth c0 H locs cells slots la hC hRm hW hS hl
  have k0 := kk p e Rm s m args below meth c0 H locs cells slots la hC hRm hW hS hl
  rw [cvS_far X (i := 20) rfl] at k0
  obtain ⟨_, _, _, _, _, hZ, _⟩ := hC.2.2.2.2.2.2.2.2.2.2
  exact va_gets hC.1 hC.2.1 hZ hS (hy ▸ hC.2.2.2.2.1) (hC.2.2.2.2.2.1 _ x_RX5_27) (fun x hx => hx) h k0
theorem s_abL (h : decode (yb y) pc = .ok (.arraylength, 1)) (kk : SW X d y b (pc + 1) ls (.int (nI 6) :: st) S I L R K) : SW X d y b pc ls (.ref 1000020 :: st) S I L R K := by
  intro p e Rm s m args below meth c0 H locs cells slots la hC hRm hW hS hl
  have k0 := kk p e Rm s m args below meth c0 H locs cells slots la hC hRm hW hS hl
  rw [cvS_far X (i := 20) rfl]
  obtain ⟨_, _, _, _, _, _, hT, _⟩ := hC.2.2.2.2.2.2.2.2.2.2
  exact va_tlen hC.1 hC.2.1 hT hS rfl h k0
theorem s_abI {k : Nat} (hk : k < 6) (h : decode (yb y) pc = .ok (.iaload, 1)) (kk : SW X d y b (pc + 1) ls (.int (aboveF k) :: st) S I L R K) : SW X d y b pc ls (.int (nI k) :: .ref 1000020 :: st) S I L R K := by
  intro p e Rm s m args below meth c0 H locs cells slots la hC hRm hW hS hl
  have k0 := kk p e Rm s m args below meth c0 H locs cells slots la hC hRm hW hS hl
  have e1 : cvS X (.int (nI k) :: .ref 1000020 :: st) = .int (nI k) :: .ref (xe X 20) :: cvS X st := congrArg (List.cons _) (cvS_far X (i := 20) rfl st)
  rw [e1]
  obtain ⟨_, _, _, _, _, _, hT, _⟩ := hC.2.2.2.2.2.2.2.2.2.2
  exact va_ti hC.1 hC.2.1 hT hS (vp_in_nI hk (by omega)) (by rw [nI_clamp (by omega)]; rfl) h k0
theorem s_cT {y2 : MD} {d2 ix i : Nat} {as st0 : List Value} {v : Value} (hi : i < 2) (h : decode (yb y) pc = .ok (.invokevirtual ix, 3)) (f : VirP (yn y).cls ix y2) (hm : Ev X d2 y2 (0, 0) (.ref (1000000 + i) :: as) S I L R (PureR (some v) S I L R)) (hd : d2 < d) (hqn : "java/lang/String" = (yn y2).cls) (hn : as.length = ya y2) (hst : st0 = as.reverse ++ .ref (1000000 + i) :: st) (hw : (st.map fun v => v.category).sum ≤ 8) (kk : SW X d y b (pc + 3) ls (v :: st) S I L R K) : SW X d y b pc ls st0 S I L R K := by
  intro p e Rm s m args below meth c0 H locs cells slots la hC hRm hW hS hl
  subst hst
  obtain ⟨r1, r2, r3, r4⟩ := hRm
  have hts := hC.2.2.2.2.2.1
  obtain ⟨hy, hk1, hk2, hk3⟩ := f
  have hGd := wsY_all hy (s := s) (args := args) hts
  have hP := preO (args := .ref (1000000 + i) :: as) hC hW hS
  obtain ⟨_, _, hT, _⟩ := hC.2.2.2.2.2.2.2.2.2.2
  have hrecv := vk_recv hT hi hS
  rw [hqn, ← xa_far X (i := i) rfl] at hrecv
  have hcat : (cvS X st).map (fun v => v.category) = st.map (fun v => v.category) := by rw [List.map_map]; exact List.map_congr_left fun v _ => cv_cat X v
  have hrun := va_runV (index := ix) (C := (yn y2).cls) (As := cvS X as) (rest := cvS X st) (e := e) (R := Rm) (below := below) (meth := meth) (H := H) (locs := locs) (cells := cells) (slots := slots) (g := F0 m pc la (cvS X (as.reverse ++ .ref (1000000 + i) :: st))) (own := (yn y).cls) (nL := yl y) (n := ya y2) ⟨hC.1, hC.2.1, hC.2.2.2.1, hC.2.2.2.2.1, hts⟩ hm
    ⟨callB_of (ya y2) hts hGd rfl rfl rfl (hts _ hy.2.1) (hts _ hk1) hy.2.2.1 (roomOK hd hy ⟨r1, r2⟩), hts _ hk2, hts _ hk3⟩ ⟨hP.1, hrecv, hP.2⟩ rfl (by rw [List.length_map]; exact hn) hl.1 (by show cvS X _ = _; simp [cvS, List.map_reverse]; rfl) (by show 2 * 0 + ((cvS X st).map _).sum ≤ 8; rw [hcat]; omega) h ⟨by omega, by omega⟩
  refine run_go hrun hS (fun r S' I' L' R' H1 locs1 hq hW1 hS1 => ?_)
  rw [cvS_ret]
  obtain ⟨rfl, rfl, rfl, rfl, rfl⟩ := hq
  exact kk p e Rm s m args below meth c0 H1 locs1 (cells + 0) (slots + 0) la hC ⟨r1, r2, by show cells + 0 + _ ≤ _; omega, by show slots + 0 + _ ≤ _; omega⟩ hW1 hS1 hl
end FAR
theorem sh0 (x : Int32) : x >>> ((0 : Int32) &&& 31) = x := by
  apply Int32.toBitVec_inj.mp
  simp
def txb (i k : Nat) : Int32 := (bytS.getD i []).getD k 0
theorem txb_all : ∀ i, i < 2 → lenS.getD i 0 < 2 ^ 31 ∧ ∀ k, k < lenS.getD i 0 → ((txb i k &&& 255).toUInt32 % 65536).toInt32 = txb i k ∧ narrow .char (.int (txb i k)) = .int (txb i k) := by decide +kernel
set_option maxRecDepth 100000 in
set_option maxHeartbeats 4000000 in
theorem E_coder {X : En} {S : Sh} {I : FI} {L : FL} {R : FR} {i : Nat} (hi : i < 2) : Ev X 0 mJ0_coder_7d493 (0, 0) [.ref (1000000 + i)] S I L R (PureR (some (.int 0)) S I L R) := by
  refine ev_of (by decide +kernel) rfl ?_
  show SW X _ _ _ 0 [some (.ref (1000000 + i))] [] S I L R _
  refine s_txS (tb_ok aJ0_coder_7d493_0 0 rfl) rfl ?_
  refine s_if_eq (tgt := 13) (tb_ok aJ0_coder_7d493_0 1 rfl) (by decide) (fun c => absurd c (by decide)) (fun _ => ?_)
  refine s_aload_n (tb_ok aJ0_coder_7d493_0 2 rfl) rfl ?_
  refine s_txC hi (tb_ok aJ0_coder_7d493_0 3 rfl) rfl ?_
  refine s_goto (tgt := 14) (tb_ok aJ0_coder_7d493_0 4 rfl) (by decide) ?_
  refine s_cret (t := .byte) (tb_ok aJ0_coder_7d493_0 6 rfl) rfl (by decide) ?_
  exact pureR

set_option maxRecDepth 100000 in
set_option maxHeartbeats 4000000 in
theorem E_latin {X : En} {S : Sh} {I : FI} {L : FL} {R : FR} {i : Nat} (hi : i < 2) : Ev X 0 mJ0_isLatin1_aae02 (0, 0) [.ref (1000000 + i)] S I L R (PureR (some (.int 1)) S I L R) := by
  refine ev_of (by decide +kernel) rfl ?_
  show SW X _ _ _ 0 [some (.ref (1000000 + i))] [] S I L R _
  refine s_txS (tb_ok aJ0_isLatin1_aae02_0 0 rfl) rfl ?_
  refine s_if_eq (tgt := 17) (tb_ok aJ0_isLatin1_aae02_0 1 rfl) (by decide) (fun c => absurd c (by decide)) (fun _ => ?_)
  refine s_aload_n (tb_ok aJ0_isLatin1_aae02_0 2 rfl) rfl ?_
  refine s_txC hi (tb_ok aJ0_isLatin1_aae02_0 3 rfl) rfl ?_
  refine s_if_ne (tgt := 17) (tb_ok aJ0_isLatin1_aae02_0 4 rfl) (by decide) (fun c => absurd rfl c) (fun _ => ?_)
  refine s_iconst (v := 1) (tb_ok aJ0_isLatin1_aae02_0 5 rfl) (by decide) ?_
  refine s_goto (tgt := 18) (tb_ok aJ0_isLatin1_aae02_0 6 rfl) (by decide) ?_
  refine s_zret (tb_ok aJ0_isLatin1_aae02_0 8 rfl) rfl (Or.inr rfl) ?_
  exact pureR

set_option maxRecDepth 100000 in
set_option maxHeartbeats 4000000 in
theorem E_length {X : En} {S : Sh} {I : FI} {L : FL} {R : FR} {i : Nat} (hi : i < 2) : Ev X 1 mJ0_length_8abf5 (0, 0) [.ref (1000000 + i)] S I L R (PureR (some (.int (nI (lenS.getD i 0)))) S I L R) := by
  refine ev_of (by decide +kernel) rfl ?_
  show SW X _ _ _ 0 [some (.ref (1000000 + i))] [] S I L R _
  refine s_aload_n (tb_ok aJ0_length_8abf5_0 0 rfl) rfl ?_
  refine s_txV hi (tb_ok aJ0_length_8abf5_0 1 rfl) rfl ?_
  refine s_txL hi rfl (tb_ok aJ0_length_8abf5_0 2 rfl) ?_
  refine s_aload_n (tb_ok aJ0_length_8abf5_0 3 rfl) rfl ?_
  refine s_cT (as := []) hi (tb_ok aJ0_length_8abf5_0 4 rfl) v_RJ0_335 (E_coder hi) (by decide) rfl rfl rfl (Nat.le_of_ble_eq_true rfl) ?_
  refine s_ishr (tb_ok aJ0_length_8abf5_0 5 rfl) ?_
  rw [sh0]
  refine s_iret (tb_ok aJ0_length_8abf5_0 6 rfl) rfl ?_
  exact pureR

set_option maxRecDepth 100000 in
set_option maxHeartbeats 4000000 in
theorem E_check3 {X : En} {S : Sh} {I : FI} {L : FL} {R : FR} {i : Nat} (hi : i < 2) {k n : Nat} (hk : k < n) (hn : n < 2 ^ 31) {v : Value} (hv : v = .null ∨ v = .ref 1000030) : Ev X 0 mJ3_checkIndex_8e157 (0, 0) [.int (nI k), .int (nI n), v] S I L R (PureR (some (.int (nI k))) S I L R) := by
  refine ev_of (by decide +kernel) (by rcases hv with rfl | rfl <;> rfl) ?_
  have hls : enL [.int (nI k), .int (nI n), v] (yl mJ3_checkIndex_8e157) = [some (.int (nI k)), some (.int (nI n)), some v] := by rcases hv with rfl | rfl <;> rfl
  rw [hls]
  refine s_iload_n (tb_ok aJ3_checkIndex_8e157_0 0 rfl) rfl ?_
  refine s_if_lt (tgt := 9) (tb_ok aJ3_checkIndex_8e157_0 1 rfl) (by decide) (fun c => absurd c (nI_pos (by omega))) (fun _ => ?_)
  refine s_iload_n (tb_ok aJ3_checkIndex_8e157_0 2 rfl) rfl ?_
  refine s_iload_n (tb_ok aJ3_checkIndex_8e157_0 3 rfl) rfl ?_
  refine s_icmp_lt (tgt := 16) (tb_ok aJ3_checkIndex_8e157_0 4 rfl) (by decide) (fun _ => ?_) (fun c => absurd (nI_lt hk hn) c)
  refine s_iload_n (tb_ok aJ3_checkIndex_8e157_0 10 rfl) rfl ?_
  refine s_iret (tb_ok aJ3_checkIndex_8e157_0 11 rfl) rfl ?_
  exact pureR

set_option maxRecDepth 100000 in
set_option maxHeartbeats 4000000 in
theorem E_check0 {X : En} {S : Sh} {I : FI} {L : FL} {R : FR} {i : Nat} (hi : i < 2) {k n : Nat} (hk : k < n) (hn : n < 2 ^ 31) : Ev X 1 mJ0_checkIndex_df160 (0, 0) [.int (nI k), .int (nI n)] S I L R (PureR (none) S I L R) := by
  refine ev_of (by decide +kernel) rfl ?_
  show SW X _ _ _ 0 [some (.int (nI k)), some (.int (nI n))] [] S I L R _
  refine s_iload_n (tb_ok aJ0_checkIndex_df160_0 0 rfl) rfl ?_
  refine s_iload_n (tb_ok aJ0_checkIndex_df160_0 1 rfl) rfl ?_
  refine s_txF (tb_ok aJ0_checkIndex_df160_0 2 rfl) rfl (fun v hv => ?_)
  refine s_cSp (as := [.int (nI k), .int (nI n), v]) (tb_ok aJ0_checkIndex_df160_0 3 rfl) v_RJ0_1059 (E_check3 hi hk hn hv) (by decide) rfl rfl (by decide) ?_
  refine s_pop (tb_ok aJ0_checkIndex_df160_0 4 rfl) rfl ?_
  refine s_vret (tb_ok aJ0_checkIndex_df160_0 5 rfl) rfl ?_
  exact pureR

set_option maxRecDepth 100000 in
set_option maxHeartbeats 4000000 in
theorem E_charAt1 {X : En} {S : Sh} {I : FI} {L : FL} {R : FR} {i : Nat} (hi : i < 2) {k : Nat} (hk : k < lenS.getD i 0) : Ev X 2 mJ1_charAt_3b067 (0, 0) [.ref (1000010 + i), .int (nI k)] S I L R (PureR (some (.int (txb i k))) S I L R) := by
  obtain ⟨h64, hch⟩ := txb_all i hi
  refine ev_of (by decide +kernel) rfl ?_
  show SW X _ _ _ 0 [some (.ref (1000010 + i)), some (.int (nI k))] [] S I L R _
  refine s_iload_n (tb_ok aJ1_charAt_3b067_0 0 rfl) rfl ?_
  refine s_aload_n (tb_ok aJ1_charAt_3b067_0 1 rfl) rfl ?_
  refine s_txL hi rfl (tb_ok aJ1_charAt_3b067_0 2 rfl) ?_
  refine s_cSpv (as := [.int (nI k), .int (nI (lenS.getD i 0))]) (tb_ok aJ1_charAt_3b067_0 3 rfl) v_RJ1_9 (E_check0 hi hk h64) (by decide) rfl rfl (by decide) ?_
  refine s_aload_n (tb_ok aJ1_charAt_3b067_0 4 rfl) rfl ?_
  refine s_iload_n (tb_ok aJ1_charAt_3b067_0 5 rfl) rfl ?_
  refine s_txB hi hk (tb_ok aJ1_charAt_3b067_0 6 rfl) ?_
  refine s_sipush (v := 255) (tb_ok aJ1_charAt_3b067_0 7 rfl) (by decide) ?_
  refine s_iand (tb_ok aJ1_charAt_3b067_0 8 rfl) ?_
  refine s_i2c (tb_ok aJ1_charAt_3b067_0 9 rfl) ?_
  refine s_topi (z := txb i k) (hch k hk).1 ?_
  refine s_cret (t := .char) (tb_ok aJ1_charAt_3b067_0 10 rfl) rfl (hch k hk).2 ?_
  exact pureR

set_option maxRecDepth 100000 in
set_option maxHeartbeats 4000000 in
theorem E_charAt {X : En} {S : Sh} {I : FI} {L : FL} {R : FR} {i : Nat} (hi : i < 2) {k : Nat} (hk : k < lenS.getD i 0) : Ev X 3 mJ0_charAt_5068e (0, 0) [.ref (1000000 + i), .int (nI k)] S I L R (PureR (some (.int (txb i k))) S I L R) := by
  obtain ⟨h64, hch⟩ := txb_all i hi
  refine ev_of (by decide +kernel) rfl ?_
  show SW X _ _ _ 0 [some (.ref (1000000 + i)), some (.int (nI k))] [] S I L R _
  refine s_aload_n (tb_ok aJ0_charAt_5068e_0 0 rfl) rfl ?_
  refine s_cT (as := []) hi (tb_ok aJ0_charAt_5068e_0 1 rfl) v_RJ0_492 (E_latin hi) (by decide) rfl rfl rfl (Nat.le_of_ble_eq_true rfl) ?_
  refine s_if_eq (tgt := 16) (tb_ok aJ0_charAt_5068e_0 2 rfl) (by decide) (fun c => absurd c (by decide)) (fun _ => ?_)
  refine s_aload_n (tb_ok aJ0_charAt_5068e_0 3 rfl) rfl ?_
  refine s_txV hi (tb_ok aJ0_charAt_5068e_0 4 rfl) rfl ?_
  refine s_iload_n (tb_ok aJ0_charAt_5068e_0 5 rfl) rfl ?_
  refine s_cSp (as := [.ref (1000010 + i), .int (nI k)]) (tb_ok aJ0_charAt_5068e_0 6 rfl) v_RJ0_495 (E_charAt1 hi hk) (by decide) rfl rfl (by decide) ?_
  refine s_cret (t := .char) (tb_ok aJ0_charAt_5068e_0 7 rfl) rfl (hch k hk).2 ?_
  exact pureR
