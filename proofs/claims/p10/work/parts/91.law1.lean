/-! WHAT IS KNOWN AT THE LAW'S START -/
theorem ls_UN : Cond.laysStatic RX3 "UNDER" "[I" ∈ lw_tbl := List.mem_of_getElem? (i := 434) (by decide +kernel)
theorem ls_AB : Cond.laysStatic RX3 "ABOVE" "[I" ∈ lw_tbl := List.mem_of_getElem? (i := 608) (by decide +kernel)
theorem ac_known {s : State} {args : Array Value} {ty : FieldType} (hp : ∀ (U : State) (cA : ClassId), U.vm.findClass ("[" ++ ty.toString) = some cA → va_RA U cA ty) (h : (Cond.arrayClass ty).before args s = true) : ∃ cA : ClassId, ArrOfT s cA ty ∧ va_RA s cA ty := by
  obtain ⟨cA, kA, comp, hfind, hk, hkind⟩ := Cond.arrayClass_spec h
  exact ⟨cA, fun n z => ⟨(fun k h => by cases h), kA, hk, comp, hkind⟩, hp s cA hfind⟩
theorem ao_known {s : State} {args : Array Value} {C : String} (h : (Cond.arrayOver (.object C)).before args s = true) : ∃ cA : ClassId, ArrOfT s cA (.object C) ∧ va_RA s cA (.object C) := by
  obtain ⟨comp, cA, kA, h1, h2, h3, h4, h5⟩ := Cond.arrayOver_spec h
  exact ⟨cA, fun n z => ⟨(fun k h => by cases h), kA, h3, comp, h4⟩, kA, comp, h3, h4, h1, h5⟩
def pick {α : Type} (d : α) (xs : List α) (k : Nat) : α := xs.getD k d
set_option maxHeartbeats 4000000 in
set_option maxRecDepth 100000 in
theorem lw_known {s : State} {b : Nat} (hts : ∀ w ∈ lw_tbl, w.before #[Value.ref b] s = true) (hgv : (Jvm.Cond.and given_1 narrow_1).before #[Value.ref b] s = true) : ∃ Γ : mG, mK Γ s ∧ mSt Γ (fun q => s.heap.size ≤ q) s s.heap := by
  have htg : ∀ w ∈ gw, w.before #[Value.ref b] s = true := fun w hw => hts w (gw_tbl hw)
  have hs := flat_of_before _ hgv
  have hA : ∀ a : Nat, a < s.heap.size → ¬ (fun q => s.heap.size ≤ q) a := fun a h => Nat.not_le.mpr h
  obtain ⟨tU, hU1, hU2⟩ := va_Tof (tm := Term.static "KindJudge$Kinds" "UNDER" "[I") (ty := .int) (N := 8) (f := fun j => .int (mUN j)) (A := fun q => s.heap.size ≤ q) (by decide) (hs _ (by decide +kernel)) (va_eqt (z := 8) (hs _ (by decide +kernel))) (fun j hj => by
    rcases (show j = 0 ∨ j = 1 ∨ j = 2 ∨ j = 3 ∨ j = 4 ∨ j = 5 ∨ j = 6 ∨ j = 7 by omega) with rfl | rfl | rfl | rfl | rfl | rfl | rfl | rfl
    · exact va_eqt (z := 1) (hs _ (by decide +kernel))
    · exact va_eqt (z := 3) (hs _ (by decide +kernel))
    · exact va_eqt (z := 7) (hs _ (by decide +kernel))
    · exact va_eqt (z := 75) (hs _ (by decide +kernel))
    · exact va_eqt (z := 215) (hs _ (by decide +kernel))
    · exact va_eqt (z := 163) (hs _ (by decide +kernel))
    · exact va_eqt (z := 65) (hs _ (by decide +kernel))
    · exact va_eqt (z := 129) (hs _ (by decide +kernel))) hA
  obtain ⟨tA, hA1, hA2⟩ := va_Tof (tm := Term.static "KindJudge$Kinds" "ABOVE" "[I") (ty := .int) (N := 8) (f := fun j => .int (mAB j)) (A := fun q => s.heap.size ≤ q) (by decide) (hs _ (by decide +kernel)) (va_eqt (z := 8) (hs _ (by decide +kernel))) (fun j hj => by
    rcases (show j = 0 ∨ j = 1 ∨ j = 2 ∨ j = 3 ∨ j = 4 ∨ j = 5 ∨ j = 6 ∨ j = 7 by omega) with rfl | rfl | rfl | rfl | rfl | rfl | rfl | rfl
    · exact va_eqt (z := 0) (hs _ (by decide +kernel))
    · exact va_eqt (z := 0) (hs _ (by decide +kernel))
    · exact va_eqt (z := 1) (hs _ (by decide +kernel))
    · exact va_eqt (z := 1) (hs _ (by decide +kernel))
    · exact va_eqt (z := 2) (hs _ (by decide +kernel))
    · exact va_eqt (z := 1) (hs _ (by decide +kernel))
    · exact va_eqt (z := 0) (hs _ (by decide +kernel))
    · exact va_eqt (z := 0) (hs _ (by decide +kernel))) hA
  have hZU := va_Zof (A := fun q => s.heap.size ≤ q) (hts _ ls_UN) (htg _ ini_X3) hU1 hA
  have hZA := va_Zof (A := fun q => s.heap.size ≤ q) (hts _ ls_AB) (htg _ ini_X3) hA1 hA
  obtain ⟨cI, hI⟩ := ac_known (ty := .int) (fun _ _ h => h) (htg _ ac_int)
  obtain ⟨cJ, hJ⟩ := ac_known (ty := .long) (fun _ _ h => h) (htg _ ac_long)
  obtain ⟨cZ, hZ⟩ := ac_known (ty := .boolean) (fun _ _ h => h) (htg _ ac_boolean)
  obtain ⟨cO, hO⟩ := ao_known (hts _ ao_X0)
  obtain ⟨cP, hP⟩ := ao_known (hts _ ao_X6)
  obtain ⟨c0, i0, k0⟩ := u_known (C := RX0) (T := TX0) (N := 12) (n := 12) htg gX0 (htg _ ins_X0)
  obtain ⟨c1, i1, k1⟩ := u_known (C := RX1) (T := TX1) (N := 5) (n := 5) htg gX1 (htg _ ins_X1)
  obtain ⟨c2, i2, k2⟩ := u_known (C := RX2) (T := TX2) (N := 6) (n := 6) htg gX2 (htg _ ins_X2)
  obtain ⟨c3, i3, k3⟩ := u_known (C := RX4) (T := TX4) (N := 14) (n := 14) htg gX4 (htg _ ins_X4)
  obtain ⟨c4, i4, k4⟩ := u_known (C := RX6) (T := TX6) (N := 2) (n := 2) htg gX6 (htg _ ins_X6)
  obtain ⟨c5, i5, k5⟩ := u_known (C := RX7) (T := TX7) (N := 2) (n := 2) htg gX7 (htg _ ins_X7)
  obtain ⟨c6, i6, k6⟩ := u_known (C := RX8) (T := TX8) (N := 3) (n := 3) htg gX8 (htg _ ins_X8)
  obtain ⟨c7, i7, k7⟩ := u_known (C := RX9) (T := TX9) (N := 3) (n := 3) htg gX9 (htg _ ins_X9)
  obtain ⟨c8, i8, k8⟩ := u_known (C := RX10) (T := TX10) (N := 35) (n := 35) htg gX10 (htg _ ins_X10)
  refine ⟨((pick c0 [c0, c1, c2, c3, c4, c5, c6, c7, c8], pick i0 [i0, i1, i2, i3, i4, i5, i6, i7, i8]), pick cI [cI, cJ, cZ, cO, cP], pick tU [tU, tA]), ⟨⟨?_, ?_⟩, fun q hq => ?_, va_AO.of (hts _ ao_X0), va_AO.of (hts _ ao_X6)⟩, hZU, hU2, hZA, hA2⟩
  · intro k q hq
    match k, hq with
    | 0, hq => cases hq; exact k0
    | 1, hq => cases hq; exact k1
    | 2, hq => cases hq; exact k2
    | 3, hq => cases hq; exact k3
    | 4, hq => cases hq; exact k4
    | 5, hq => cases hq; exact k5
    | 6, hq => cases hq; exact k6
    | 7, hq => cases hq; exact k7
    | 8, hq => cases hq; exact k8
    | k + 9, hq => simp [vwCl] at hq
  · intro k q hq
    match k, hq with
    | 0, hq => cases hq; exact hI
    | 1, hq => cases hq; exact hJ
    | 2, hq => cases hq; exact hZ
    | 3, hq => cases hq; exact hO
    | 4, hq => cases hq; exact hP
    | k + 5, hq => simp [mTy] at hq
  · have h := mNest_in q hq
    exact va_Nw.of rfl (hts _ h)
