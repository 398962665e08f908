/-! what holds at the law's entry, of the texts, the tables and the classes -/
def fl9 : List Cond := flatC (Jvm.Cond.and given_1 narrow_1)
def tmS (i : Nat) : Term := if i = 0 then .string RX2 107 else .string RX7 73
theorem fl_b0 : ∀ j, j < 64 → fl9[95 + j]? = some (.eq (.elem (.field (tmS 0) "java/lang/String" "value" "[B") (.int (Int32.ofNat j))) (.int ((bytS.getD 0 []).getD j 0))) := by decide +kernel
theorem fl_b1 : ∀ j, j < 42 → fl9[49 + j]? = some (.eq (.elem (.field (tmS 1) "java/lang/String" "value" "[B") (.int (Int32.ofNat j))) (.int ((bytS.getD 1 []).getD j 0))) := by decide +kernel
theorem fl_ab : ∀ j, j < 6 → fl9[12 + j]? = some (.eq (.elem (.static RX5 "ABOVE" "[I") (.int (Int32.ofNat j))) (.int (aboveF j))) := by decide +kernel
theorem nest_tb : ∀ q ∈ nestL, Cond.methodLinkNest q.1 q.2.1 q.2.2 "ApplesFall" ∈ lw_tbl := by decide +kernel
theorem two {P : Nat → Prop} (h0 : P 0) (h1 : P 1) : ∀ i, i < 2 → P i := fun i hi => by
  rcases (show i = 0 ∨ i = 1 by omega) with rfl | rfl
  · exact h0
  · exact h1
theorem sta_of {s : State} {args : Array Value} (hts : ∀ w ∈ lw_tbl, w.before args s = true) (hgv : (Jvm.Cond.and given_1 narrow_1).before args s = true) : ∃ ad : Nat → Nat, ∀ X : En, xb X = s.heap.size → (∀ i, i < 40 → xe X i = ad i) → Sta X s := by
  have hf : ∀ w ∈ fl9, w.before args s = true := flat_of_before _ hgv
  have hA : ∀ a : Nat, a < s.heap.size → ¬ (fun q : Nat => s.heap.size ≤ q) a := fun a h h2 => Nat.not_le.mpr h h2
  obtain ⟨adK, adV, hS, hev⟩ := vk_Sof (N := 2) (tm := tmS) (len := lenS) (byt := bytS) (A := fun q : Nat => s.heap.size ≤ q) (args := args) (s := s) (two (by decide) (by decide)) (two (hf _ (List.mem_of_getElem? (i := 91) (by decide +kernel))) (hf _ (List.mem_of_getElem? (i := 45) (by decide +kernel)))) (two (hf _ (List.mem_of_getElem? (i := 92) (by decide +kernel))) (hf _ (List.mem_of_getElem? (i := 46) (by decide +kernel))))
    (two (hf _ (List.mem_of_getElem? (i := 93) (by decide +kernel))) (hf _ (List.mem_of_getElem? (i := 47) (by decide +kernel)))) (two (hf _ (List.mem_of_getElem? (i := 94) (by decide +kernel))) (hf _ (List.mem_of_getElem? (i := 48) (by decide +kernel)))) (two (fun j hj => hf _ (List.mem_of_getElem? (fl_b0 j hj))) (fun j hj => hf _ (List.mem_of_getElem? (fl_b1 j hj))))
    (fun i j hi hj hij => by
      have key : (Cond.not (Cond.eq (tmS 1) (tmS 0))).before args s = true := hf _ (List.mem_of_getElem? (i := 159) (by decide +kernel))
      rcases (show i = 0 ∨ i = 1 by omega) with rfl | rfl
      · have e : j = 1 := by omega
        subst e
        exact Or.inr key
      · have e : j = 0 := by omega
        subst e
        exact Or.inl key) hA
  obtain ⟨t, ht, hT⟩ := va_Tof (args := args) (s := s) (tm := .static RX5 "ABOVE" "[I") (ty := .int) (N := 6) (f := fun j => .int (aboveF j)) (A := fun q : Nat => s.heap.size ≤ q) (by decide) (hf _ (List.mem_of_getElem? (i := 10) (by decide +kernel))) (va_eqt (hf _ (List.mem_of_getElem? (i := 11) (by decide +kernel)))) (fun j hj => va_eqt (hf _ (List.mem_of_getElem? (fl_ab j hj)))) hA
  have hZ : va_Z RX5 "ABOVE" "[I" (.ref t) (fun q : Nat => s.heap.size ≤ q) s s.heap := va_Zof (hts _ (show Cond.laysStatic RX5 "ABOVE" "[I" ∈ lw_tbl by decide +kernel)) (hts _ (show Cond.initialized RX5 ∈ lw_tbl by decide +kernel)) ht hA
  have hC : va_Z "java/lang/String" "COMPACT_STRINGS" "Z" (.int 1) (fun q : Nat => s.heap.size ≤ q) s s.heap := va_Zof (hts _ (show Cond.laysStatic "java/lang/String" "COMPACT_STRINGS" "Z" ∈ lw_tbl by decide +kernel)) (hts _ (show Cond.initialized "java/lang/String" ∈ lw_tbl by decide +kernel)) (va_eqi (hf _ (List.mem_of_getElem? (i := 4) (by decide +kernel)))) hA
  obtain ⟨v, hv, hvr⟩ := Cond.isRef_spec (t := .static "jdk/internal/util/Preconditions" "SIOOBE_FORMATTER" "Ljava/util/function/BiFunction;") (hf _ (List.mem_of_getElem? (i := 5) (by decide +kernel)))
  have hF : va_Z "jdk/internal/util/Preconditions" "SIOOBE_FORMATTER" "Ljava/util/function/BiFunction;" v (fun q : Nat => s.heap.size ≤ q) s s.heap := va_Zof (hts _ (show Cond.laysStatic "jdk/internal/util/Preconditions" "SIOOBE_FORMATTER" "Ljava/util/function/BiFunction;" ∈ lw_tbl by decide +kernel)) (hts _ (show Cond.initialized "jdk/internal/util/Preconditions" ∈ lw_tbl by decide +kernel)) hv hA
  obtain ⟨z, hz⟩ : ∃ z : Nat, v = .null ∨ v = .ref z := by
    cases v with
    | null => exact ⟨0, Or.inl rfl⟩
    | ref z => exact ⟨z, Or.inr rfl⟩
    | _ => cases hvr
  refine ⟨fun i => if i < 2 then adK i else if i < 12 then adV (i - 10) else if i = 20 then t else z, fun X hb hx => ?_⟩
  have hN : ∀ q : Nat, xA X q → (fun q : Nat => s.heap.size ≤ q) q := fun q h => by
    have h1 : xb X ≤ q := h
    show s.heap.size ≤ q
    omega
  have k0 : ∀ i, i < 2 → xe X i = adK i := fun i hi => (hx i (by omega)).trans (if_pos hi)
  have k1 : ∀ i, i < 2 → xe X (10 + i) = adV i := fun i hi => by
    refine (hx (10 + i) (by omega)).trans ?_
    show (if 10 + i < 2 then adK (10 + i) else if 10 + i < 12 then adV (10 + i - 10) else if 10 + i = 20 then t else z) = adV i
    rw [if_neg (by omega), if_pos (by omega), show 10 + i - 10 = i by omega]
  have k2 : xe X 20 = t := hx 20 (by decide)
  have k3 : xe X 30 = z := hx 30 (by decide)
  have a0 : xe X 0 = adK 0 := k0 0 (by decide)
  have a1 : xe X 1 = adK 1 := k0 1 (by decide)
  refine ⟨?_, ?_, ?_, hC.narrow hN, ?_, ?_, ?_, va_AO.of (hts _ (show Cond.arrayOver (.object RX3) ∈ lw_tbl by decide +kernel)), va_AO.of (hts _ (show Cond.arrayOver (.object RX4) ∈ lw_tbl by decide +kernel)), va_AO.of (hts _ (show Cond.arrayOver (.object RX5) ∈ lw_tbl by decide +kernel)), fun q hq => va_Nw.of rfl (hts _ (nest_tb q hq))⟩
  · rw [a0]
    exact vk_R.of (hts _ (show Cond.stringRef RX2 107 txtW ∈ lw_tbl by decide +kernel)) (hev 0 (by decide))
  · rw [a1]
    exact vk_R.of (hts _ (show Cond.stringRef RX7 73 txtF ∈ lw_tbl by decide +kernel)) (hev 1 (by decide))
  · have hS := hS.narrow hN
    refine ⟨fun i hi => ?_, fun i j hi hj e => hS.2 i j hi hj ?_⟩
    · show va_O "java/lang/String" (xe X i) _ _ _ ∧ va_OF "java/lang/String" "coder" "B" (.int 0) (xe X i) _ _ _ ∧ va_OF "java/lang/String" "value" "[B" (.ref (xe X (10 + i))) (xe X i) _ _ _ ∧ va_T .byte (xe X (10 + i)) _ _ _ _ _
      rw [k0 i hi, k1 i hi]
      exact hS.1 i hi
    · have e2 : xe X i = xe X j := e
      rw [k0 i hi, k0 j hj] at e2
      exact e2
  · rcases hz with rfl | rfl
    · exact Or.inl (hF.narrow hN)
    · rw [k3]
      exact Or.inr (hF.narrow hN)
  · rw [k2]
    exact hZ.narrow hN
  · rw [k2]
    exact hT.narrow hN
theorem in_tbl {w : Cond} (h : w ∈ GW) : w ∈ lw_tbl := (List.mem_filter.mp h).1
def tyL5 : List FieldType := [.int, .boolean, .object RX5, .object RX4, .object RX3]
theorem k_of {s : State} {args : Array Value} (hts : ∀ w ∈ lw_tbl, w.before args s = true) : ∃ (D : va_G) (g : Nat → ClassId), va_K D vwCl [(g 0, .int), (g 1, .boolean), (g 2, .object RX5), (g 3, .object RX4), (g 4, .object RX3)] s := by
  have h1 : ∀ c : Nat, ∃ q : ClassId × (Nat → Nat), ∀ r : vw_C, vwCl[c]? = some r → u_Kn s r.1 r.2.1 r.2.2 q.1 q.2 := by
    have one : ∀ (c : Nat) (C : String) (T : u_T) (N : Nat) (ty : Nat → FieldType), ClsOK c C T N ty → Cond.instantiable C N ∈ lw_tbl → ∃ q : ClassId × (Nat → Nat), ∀ r : vw_C, vwCl[c]? = some r → u_Kn s r.1 r.2.1 r.2.2 q.1 q.2 := fun c C T N ty hc hi => by
      obtain ⟨cC, iS, h⟩ := u_known (C := C) (T := T) (N := N) (n := N) hts (fun w hw => in_tbl (hc.2.1 w hw)) (hts _ hi)
      refine ⟨(cC, iS), fun r hr => ?_⟩
      cases hc.1.symm.trans hr
      exact h
    intro c
    match c with
    | 0 => exact one 0 _ _ _ _ cls0 (by decide +kernel)
    | 1 => exact one 1 _ _ _ _ cls1 (by decide +kernel)
    | 2 => exact one 2 _ _ _ _ cls2 (by decide +kernel)
    | 3 => exact one 3 _ _ _ _ cls3 (by decide +kernel)
    | 4 => exact one 4 _ _ _ _ cls4 (by decide +kernel)
    | 5 => exact one 5 _ _ _ _ cls5 (by decide +kernel)
    | 6 => exact one 6 _ _ _ _ cls6 (by decide +kernel)
    | 7 => exact one 7 _ _ _ _ cls7 (by decide +kernel)
    | 8 => exact one 8 _ _ _ _ cls8 (by decide +kernel)
    | k + 9 => exact ⟨(0, fun _ => 0), fun r hr => by rw [List.getElem?_eq_none (by show 9 ≤ k + 9; omega)] at hr; cases hr⟩
  have hO : ∀ C : String, Cond.arrayOver (.object C) ∈ lw_tbl → ∃ cA : ClassId, ArrOfT s cA (.object C) ∧ va_RA s cA (.object C) := fun C hC => by
    obtain ⟨comp, c, k, g1, g2, g3, g4, g5⟩ := Cond.arrayOver_spec (hts _ hC)
    exact ⟨c, fun n z => ⟨fun k h => (by cases h), k, g3, comp, g4⟩, k, comp, g3, g4, g1, g5⟩
  have hI : ∃ cA : ClassId, ArrOfT s cA .int ∧ va_RA s cA .int := by
    obtain ⟨c, k, comp, g1, g2, g3⟩ := Cond.arrayClass_spec (hts _ (in_tbl n_I))
    exact ⟨c, fun n z => ⟨fun k h => (by cases h), k, g2, comp, g3⟩, g1⟩
  have hB : ∃ cA : ClassId, ArrOfT s cA .boolean ∧ va_RA s cA .boolean := by
    obtain ⟨c, k, comp, g1, g2, g3⟩ := Cond.arrayClass_spec (hts _ (in_tbl n_Z))
    exact ⟨c, fun n z => ⟨fun k h => (by cases h), k, g2, comp, g3⟩, g1⟩
  obtain ⟨D, hD⟩ := Classical.axiomOfChoice h1
  obtain ⟨c0, p0⟩ := hI
  obtain ⟨c1, p1⟩ := hB
  obtain ⟨c2, p2⟩ := hO RX5 (by decide +kernel)
  obtain ⟨c3, p3⟩ := hO RX4 (by decide +kernel)
  obtain ⟨c4, p4⟩ := hO RX3 (by decide +kernel)
  refine ⟨(fun c => (D c).1, fun c => (D c).2), fun k => if k = 0 then c0 else if k = 1 then c1 else if k = 2 then c2 else if k = 3 then c3 else c4, fun c q hq => hD c q hq, fun k q hq => ?_⟩
  match k, hq with
  | 0, hq => cases hq; exact p0
  | 1, hq => cases hq; exact p1
  | 2, hq => cases hq; exact p2
  | 3, hq => cases hq; exact p3
  | 4, hq => cases hq; exact p4
  | k + 5, hq => rw [List.getElem?_eq_none (by show 5 ≤ k + 5; omega)] at hq; cases hq
