/-! a stretch of one int array laid into another; of which kind a tree is -/
section COPY
variable {X : En} {d : Nat} {y : MD} {b : Nat × Nat} {pc : Nat} {ls : List (Option Value)} {st : List Value} {S : Sh} {I : FI} {L : FL} {R : FR} {K : Kt}
theorem nI_int {n : Nat} (h : n < 2 ^ 31) : (nI n).toInt = (n : Int) := by
  have h0 : ¬ nI n < 0 := nI_pos h
  have h1 : (nI n).toNatClampNeg = n := nI_clamp h
  have h2 : (0 : Int) ≤ (nI n).toInt := by
    have := Int32.not_lt.mp h0
    simpa using Int32.le_iff_toInt_le.mp this
  have h3 : (nI n).toInt.toNat = n := h1
  omega
/-- System.arraycopy, ints; the heap keeps its size -/
theorem s_acopy {o1 o2 n1 n2 sp dp n : Nat} (h : decode (yb y) pc = .ok (.invokestatic 323, 3)) (hy : (yn y).cls = RX7) (h1 : S[o1]? = some (9, n1)) (h2 : S[o2]? = some (9, n2)) (hs : sp + n ≤ n1) (hp : dp + n ≤ n2) (hb1 : n1 < 2 ^ 31) (hb2 : n2 < 2 ^ 31) (hd : 0 < d) (hw : (st.map fun v => v.category).sum ≤ 8)
    (kk : SW X d y b (pc + 3) ls st S (setO I o2 (va_cpy (I o1) (I o2) sp dp n)) L R K) : SW X d y b pc ls (.int (nI n) :: .int (nI dp) :: .ref o2 :: .int (nI sp) :: .ref o1 :: st) S I L R K := by
  intro p e Rm s m args below meth c0 H locs cells slots la hC hRm hW hS hl T hT E
  obtain ⟨r1, r2, r3, r4⟩ := id hRm
  have hts := hC.2.2.2.2.2.1
  obtain ⟨x1, x2, x3, x4⟩ := x_copy
  have hcat : (cvS X st).map (fun v => v.category) = st.map (fun v => v.category) := by rw [List.map_map]; exact List.map_congr_left fun v _ => cv_cat X v
  have hwd : 2 * 0 + ((cvS X st).map fun v => v.category).sum + (nativeFrameWords "java/lang/System" "arraycopy" 5 + 11) ≤ Rm.locals := by
    rw [hcat]
    have : nativeFrameWords "java/lang/System" "arraycopy" 5 + 11 ≤ 40 := by decide +kernel
    omega
  have hD := wsO_D X hW.2.1 I L R
  have e1 := wsO_get X h1 I L R
  have e2 := wsO_get X h2 I L R
  rw [cellO_i] at e1 e2
  have m1 : H[xa X o1]? = some (vp_cell (xc X 0) (n1, .inl (I o1))) := hW.2.2 o1 _ e1
  have m2 : H[xa X o2]? = some (vp_cell (xc X 0) (n2, .inl (I o2))) := hW.2.2 o2 _ e2
  have hq := (hC.2.2.2.2.2.2.2.2.1.2 0 _ (rfl : (tysX X)[0]? = some (xc X 0, .int))).1
  obtain ⟨-, k0, u0, cm0, w0⟩ := hq n1 (fun j => .int (I o1 j))
  obtain ⟨-, k1, u1, cm1, w1⟩ := hq n2 (fun j => .int (I o2 j))
  have c1 : (nI sp).toNatClampNeg = sp := nI_clamp (by omega)
  have c2 : (nI dp).toNatClampNeg = dp := nI_clamp (by omega)
  have c3 : (nI n).toNatClampNeg = n := nI_clamp (by omega)
  obtain ⟨vm', E', step⟩ := E.arraycopy hC.1 (own := RX7) (hy ▸ hC.2.2.2.2.1) (hts _ x1) (hts _ x2) (hts _ x3) (hts _ x4) (src := xa X o1) (dst := xa X o2) (cs := vp_cell (xc X 0) (n1, .inl (I o1))) (cd := vp_cell (xc X 0) (n2, .inl (I o2))) (srcPos := nI sp) (destPos := nI dp) (n := nI n) (by rw [hT]; exact m1) (by rw [hT]; exact m2)
    (fun _ h => by cases h) (fun _ h => by cases h) (fun h => by cases h) (fun h => by cases h) u0 u1 w0 w1 (by simp [refKind]) (nI_pos (by omega)) (nI_pos (by omega)) (nI_pos (by omega))
    (by rw [nI_int (by omega), nI_int (by omega)]; show ¬ _ > ((arrV _ n1 _).slots.size : Int); rw [arrV_size]; omega)
    (by rw [nI_int (by omega), nI_int (by omega)]; show ¬ _ > ((arrV _ n2 _).slots.size : Int); rw [arrV_size]; omega)
    (fun vm₁ _ i hi => by
      rw [c1]
      rw [c3] at hi
      have e : (vp_cell (xc X 0) (n1, .inl (I o1))).slots.getD (sp + i) .null = .int (I o1 (sp + i)) := by
        show (arrV _ n1 (fun j => .int (I o1 j))).slots.getD _ _ = _
        rw [Array.getD_eq_getD_getElem?, arrV_read _ _ (by omega)]
        rfl
      rw [e]
      exact ⟨rfl, trivial⟩)
    (g := F0 m pc la (cvS X (.int (nI n) :: .int (nI dp) :: .ref o2 :: .int (nI sp) :: .ref o1 :: st))) rfl (by rw [hC.2.2.2.1]; exact hl.1) (rest := cvS X st) rfl (by rw [hC.2.1]; exact h) (by omega) hwd
  have e3 : copied (vp_cell (xc X 0) (n1, .inl (I o1))) (vp_cell (xc X 0) (n2, .inl (I o2))) (nI sp) (nI dp) (nI n) = vp_cell (xc X 0) (n2, .inl (va_cpy (I o1) (I o2) sp dp n)) := by
    have k := va_copied (fun z => Value.int z) (xc X 0) (xc X 0) (I o1) (I o2) (n0 := n1) (n1 := n2) (sp := sp) (dp := dp) (n := n) hs
    show (arrV (xc X 0) n2 (fun j => Value.int (I o2 j))).storeRun (nI dp).toNatClampNeg ((arrV (xc X 0) n1 (fun j => Value.int (I o1 j))).stretch (nI sp).toNatClampNeg (nI n).toNatClampNeg) = _
    rw [c1, c2, c3, k]
    rfl
  rw [e3] at E' step
  have hl2 : xa X o2 < H.size := (Array.getElem?_eq_some_iff.mp m2).1
  have oq : ∀ q : Nat, q ≠ xa X o2 → (H.setIfInBounds (xa X o2) (vp_cell (xc X 0) (n2, .inl (va_cpy (I o1) (I o2) sp dp n))))[q]? = H[q]? := fun q hq => by simp [Array.getElem?_setIfInBounds, Ne.symm hq]
  have z1 : (H.setIfInBounds (xa X o2) (vp_cell (xc X 0) (n2, .inl (va_cpy (I o1) (I o2) sp dp n)))).size = H.size := by simp
  have hW1 : World X S (setO I o2 (va_cpy (I o1) (I o2) sp dp n)) L R (H.setIfInBounds (xa X o2) (vp_cell (xc X 0) (n2, .inl (va_cpy (I o1) (I o2) sp dp n)))) := by
    refine worldSet (e := .inl (xc X 0, n2, .inl (va_cpy (I o1) (I o2) sp dp n))) hW h2 ?_ (fun a ha => ⟨setO_n ha, rfl, rfl⟩) z1 (hW.2.2.set hD e2 ?_ oq)
    · rw [cellO_i, setO_o]
    · show (H.setIfInBounds _ _)[xa X o2]? = some _
      simp [Array.getElem?_setIfInBounds, hl2]
  obtain ⟨t, a1, b1⟩ := kk p e Rm s m args below meth c0 _ _ cells slots la hC hRm hW1 ⟨by simp; exact hS.1, fun q g1 g2 => by
      rw [oq q (fun e => g2 (by rw [e]; exact hD.2 o2 _ e2))]
      exact hS.2.1 q g1 g2, fun q hq => by
      rcases List.mem_append.mp hq with h | h
      · exact hS.2.2 q h
      · obtain ⟨z, -, hz⟩ := List.mem_map.mp h
        rw [← hz]
        exact hD.2 o2 _ e2⟩ hl _ (by rw [← hT]; rfl) E'
  exact ⟨t, step t a1, b1⟩
end COPY
def isoF (w : Int32) : Nat → Int32 → Int32
  | 0, _ => 0
  | n + 1, x => if x = w then 1 else isoF w n (if x < 0 then -1 else if nI 6 ≤ x then -1 else aboveF x.toNatClampNeg)
theorem s_top2 {X : En} {d : Nat} {y : MD} {b : Nat × Nat} {pc : Nat} {ls : List (Option Value)} {st : List Value} {S : Sh} {I : FI} {L : FL} {R : FR} {K : Kt} {x z : Int32} (e : x = z) (kk : SW X d y b pc ls (.int z :: st) S I L R K) : SW X d y b pc ls (.int x :: st) S I L R K := by rw [e]; exact kk
set_option maxRecDepth 100000 in
set_option maxHeartbeats 4000000 in
theorem E_isOf {X : En} {S : Sh} {I : FI} {L : FL} {R : FR} {o : Nat} (ho : S[o]? = some (5, 5)) (w : Int32) : Ev X 0 mX5_isOf (0, 0) [.ref o, .int w] S I L R (PureR (some (.int (isoF w 6 (I o 0)))) S I L R) := by
  have loop : ∀ k, k ≤ 6 → ∀ (x : Int32), (isoF w (6 - k) x = (isoF w 6 (I o 0))) → SW X 0 mX5_isOf (0, 0) 7 [some (.ref o), some (.int w), some (.int x), some (.int (nI k))] [] S I L R (KQ X (PureR (some (.int (isoF w 6 (I o 0)))) S I L R)) := by
    refine for_up (P := fun k => ∀ (x : Int32), (isoF w (6 - k) x = (isoF w 6 (I o 0))) → SW X 0 mX5_isOf (0, 0) 7 [some (.ref o), some (.int w), some (.int x), some (.int (nI k))] [] S I L R (KQ X (PureR (some (.int (isoF w 6 (I o 0)))) S I L R))) 6 ?_ ?_
    · intro x hi
      refine s_iload_n (tb_ok aX5_isOf_0 5 rfl) rfl ?_
      refine s_bipush (v := nI 6) (tb_ok aX5_isOf_0 6 rfl) (by decide) ?_
      refine s_icmp_ge (tgt := 48) (tb_ok aX5_isOf_0 7 rfl) (by decide) (fun c10 => ?_) (fun c10 => ?_)
      · refine s_iconst (v := 0) (tb_ok aX5_isOf_1 3 rfl) (by decide) ?_
        refine s_zret (tb_ok aX5_isOf_1 4 rfl) rfl ?_ ?_
        exact Or.inl rfl
        refine pureE ?_
        rw [← hi]; rfl
      · simp (disch := omega) only [nI_ltI, nI_leI, nI_eq] at c10
        omega
    · intro k hk ih x hi
      refine s_iload_n (tb_ok aX5_isOf_0 5 rfl) rfl ?_
      refine s_bipush (v := nI 6) (tb_ok aX5_isOf_0 6 rfl) (by decide) ?_
      refine s_icmp_ge (tgt := 48) (tb_ok aX5_isOf_0 7 rfl) (by decide) (fun c10 => ?_) (fun c10 => ?_)
      · simp (disch := omega) only [nI_ltI, nI_leI, nI_eq] at c10
        omega
      · refine s_iload_n (tb_ok aX5_isOf_0 8 rfl) rfl ?_
        refine s_iload_n (tb_ok aX5_isOf_0 9 rfl) rfl ?_
        refine s_icmp_ne (tgt := 20) (tb_ok aX5_isOf_0 10 rfl) (by decide) (fun c15 => ?_) (fun c15 => ?_)
        · refine s_iload_n (tb_ok aX5_isOf_0 13 rfl) rfl ?_
          refine s_if_lt (tgt := 40) (tb_ok aX5_isOf_0 14 rfl) (by decide) (fun c21 => ?_) (fun c21 => ?_)
          · refine s_iconst (v := -1) (tb_ok aX5_isOf_0 23 rfl) (by decide) ?_
            refine s_istore_n (ls' := [some (.ref o), some (.int w), some (.int (-1)), some (.int (nI k))]) (tb_ok aX5_isOf_1 0 rfl) rfl rfl ?_
            refine s_iinc (v := nI (k + 1)) (ls' := [some (.ref o), some (.int w), some (.int (-1)), some (.int (nI (k + 1)))]) (tb_ok aX5_isOf_1 1 rfl) rfl (nI_1 _) rfl rfl ?_
            refine s_goto (tgt := 7) (tb_ok aX5_isOf_1 2 rfl) (by decide) ?_
            refine ih _ ?_
            rw [← hi, show 6 - k = 6 - (k + 1) + 1 by omega, isoF, if_neg c15]
            first | (rw [if_pos c21, ex1]; done) | (rw [if_neg c21, if_pos c29, ex1]; done) | (rw [if_neg c21, if_neg c29, ex1]; done) | (rw [if_neg c21, if_neg c29]; done) | (rw [if_neg c21, if_pos c29]; done) | (rw [if_pos c21]; done)
          · refine s_iload_n (tb_ok aX5_isOf_0 15 rfl) rfl ?_
            refine s_abS (tb_ok aX5_isOf_0 16 rfl) rfl ?_
            refine s_abL (tb_ok aX5_isOf_0 17 rfl) ?_
            refine s_icmp_ge (tgt := 40) (tb_ok aX5_isOf_0 18 rfl) (by decide) (fun c29 => ?_) (fun c29 => ?_)
            · refine s_iconst (v := -1) (tb_ok aX5_isOf_0 23 rfl) (by decide) ?_
              refine s_istore_n (ls' := [some (.ref o), some (.int w), some (.int (-1)), some (.int (nI k))]) (tb_ok aX5_isOf_1 0 rfl) rfl rfl ?_
              refine s_iinc (v := nI (k + 1)) (ls' := [some (.ref o), some (.int w), some (.int (-1)), some (.int (nI (k + 1)))]) (tb_ok aX5_isOf_1 1 rfl) rfl (nI_1 _) rfl rfl ?_
              refine s_goto (tgt := 7) (tb_ok aX5_isOf_1 2 rfl) (by decide) ?_
              refine ih _ ?_
              rw [← hi, show 6 - k = 6 - (k + 1) + 1 by omega, isoF, if_neg c15]
              first | (rw [if_pos c21, ex1]; done) | (rw [if_neg c21, if_pos c29, ex1]; done) | (rw [if_neg c21, if_neg c29, ex1]; done) | (rw [if_neg c21, if_neg c29]; done) | (rw [if_neg c21, if_pos c29]; done) | (rw [if_pos c21]; done)
            · refine s_abS (tb_ok aX5_isOf_0 19 rfl) rfl ?_
              refine s_iload_n (tb_ok aX5_isOf_0 20 rfl) rfl ?_
              have hx6 : x.toNatClampNeg < 6 := by
                obtain ⟨j, hj, rfl⟩ := nI_of c21
                have : j < 6 := Nat.lt_of_not_le (fun h => c29 (nI_le h hj))
                rw [nI_clamp hj]; exact this
              obtain ⟨j, hj, ej⟩ := nI_of c21
              have hxe : x = nI x.toNatClampNeg := by rw [ej, nI_clamp hj]
              refine s_top2 hxe ?_
              refine s_abI hx6 (tb_ok aX5_isOf_0 21 rfl) ?_
              refine s_goto (tgt := 41) (tb_ok aX5_isOf_0 22 rfl) (by decide) ?_
              refine s_name (fun x1 ex1 => ?_)
              refine s_istore_n (ls' := [some (.ref o), some (.int w), some (.int x1), some (.int (nI k))]) (tb_ok aX5_isOf_1 0 rfl) rfl rfl ?_
              refine s_iinc (v := nI (k + 1)) (ls' := [some (.ref o), some (.int w), some (.int x1), some (.int (nI (k + 1)))]) (tb_ok aX5_isOf_1 1 rfl) rfl (nI_1 _) rfl rfl ?_
              refine s_goto (tgt := 7) (tb_ok aX5_isOf_1 2 rfl) (by decide) ?_
              refine ih _ ?_
              rw [← hi, show 6 - k = 6 - (k + 1) + 1 by omega, isoF, if_neg c15]
              first | (rw [if_pos c21, ex1]; done) | (rw [if_neg c21, if_pos c29, ex1]; done) | (rw [if_neg c21, if_neg c29, ex1]; done) | (rw [if_neg c21, if_neg c29]; done) | (rw [if_neg c21, if_pos c29]; done) | (rw [if_pos c21]; done)
        · refine s_iconst (v := 1) (tb_ok aX5_isOf_0 11 rfl) (by decide) ?_
          refine s_zret (tb_ok aX5_isOf_0 12 rfl) rfl ?_ ?_
          exact Or.inr rfl
          refine pureE ?_
          rw [← hi, show 6 - k = 6 - (k + 1) + 1 by omega, isoF, if_pos c15]
  refine ev_of (by decide +kernel) rfl ?_
  show SW X _ _ _ 0 [some (.ref o), some (.int w), none, none] [] S I L R _
  refine s_aload_n (tb_ok aX5_isOf_0 0 rfl) rfl ?_
  refine s_getI (tb_ok aX5_isOf_0 1 rfl) f_RX5_9 ho rfl rfl ?_
  refine s_name (fun x1 ex1 => ?_)
  refine s_istore_n (ls' := [some (.ref o), some (.int w), some (.int x1), none]) (tb_ok aX5_isOf_0 2 rfl) rfl rfl ?_
  refine s_iconst (v := nI 0) (tb_ok aX5_isOf_0 3 rfl) (by decide) ?_
  refine s_istore_n (ls' := [some (.ref o), some (.int w), some (.int x1), some (.int (nI 0))]) (tb_ok aX5_isOf_0 4 rfl) rfl rfl ?_
  exact loop 0 (Nat.zero_le _) _ (by rw [ex1])
