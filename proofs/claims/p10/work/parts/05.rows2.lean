/-! INSTRUCTIONS OVER THE MEMORY BY NAMES -/
section MI
variable {p : Program} {l : Launch} {e : Env} {R : Room} {s : State} {m : MethodId} {args : Array Value} {below : List Frame} {meth : Method} {c : Code} {H : Heap} {locs : List Loc} {cells slots : Nat} {Q : State → Prop}
variable {cc : ByteArray} {pc nL : Nat} {ls : Array Slot} {rest : List Value} {Γ : mG} {A : Nat → Prop} {L : mI → Nat} {M : mM} {own : String} {i : mI}
theorem m_get {C ref : String} {T : u_T} {N ci index : Nat} {fs : List Value} {v : Value} (X : mX Γ p m c cc nL s args own A) (hw : mW Γ.1 vwCl A L M H) (hi : mget M i = some (.inr (ci, fs))) (hc : vwCl[ci]? = some (C, T, N)) (hin : ∀ w ∈ u_ws C T N, w ∈ gw) (k : Nat) (hk : k < N) (hlink : Cond.fieldLink own index ref (T k).2.1 (T k).2.2.1 ∈ gw) (hself : (T k).1 = ref) (hv : fs[k]? = some v) (hdg : decode cc pc = .ok (.getfield index, 3))
    (kk : W p l e R s m args below meth c H locs cells slots Q (F0 m (pc + 3) ls (v :: rest))) : W p l e R s m args below meth c H locs cells slots Q (F0 m pc ls (.ref (L i) :: rest)) := by
  obtain ⟨ws, hP, hD, h3, h4⟩ := hw
  obtain ⟨k0, hk0⟩ := h3 i _ hi
  have ht := X.1.2.2.2.2
  exact va_get X.1.1 X.1.2.1 ht hin X.1.2.2.2.1 X.2.1.1 hP k0 hk0 hc k hk (ht _ hlink) (fun x h => by rw [← hself]; exact h) hv hdg kk
theorem m_put {C ref : String} {T : u_T} {N ci index : Nat} {fs : List Value} {v : Value} {ty : FieldType} (X : mX Γ p m c cc nL s args own A) (hw : mW Γ.1 vwCl A L M H) (hS : va_S A s.heap H locs) (hi : mget M i = some (.inr (ci, fs))) (hc : vwCl[ci]? = some (C, T, N)) (hin : ∀ w ∈ u_ws C T N, w ∈ gw) (ty0 : Nat → FieldType) (hty : ∀ k, k < N → parseFieldDescriptor (T k).2.2.1 = some (ty0 k)) (hnm : ∀ a, a < N → ∀ b, b < N → a ≠ b → (T a).2.1 ≠ (T b).2.1) (k : Nat) (hk : k < N) (hlink : Cond.fieldLink own index ref (T k).2.1 (T k).2.2.1 ∈ gw) (hself : (T k).1 = ref) (hfin : (T k).2.2.2 = false) (hd : parseFieldDescriptor (T k).2.2.1 = some ty) (hn : narrow ty v = v) (hfit : fits ty v = true) (hl : k < fs.length) (hdg : decode cc pc = .ok (.putfield index, 3))
    (kk : ∀ (H1 : Heap) (locs1 : List Loc), mW Γ.1 vwCl A L (mset M i (.inr (ci, fs.set k v))) H1 → va_S A s.heap H1 locs1 → W p l e R s m args below meth c H1 locs1 cells slots Q (F0 m (pc + 3) ls rest)) : W p l e R s m args below meth c H locs cells slots Q (F0 m pc ls (v :: .ref (L i) :: rest)) := by
  obtain ⟨ws, hP, hD, h3, h4⟩ := hw
  obtain ⟨k0, hk0⟩ := h3 i _ hi
  have ht := X.1.2.2.2.2
  exact va_put X.1.1 X.1.2.1 ht hin ty0 hty hnm X.1.2.2.2.1 X.2.1.1 hP hD hS k0 hk0 hc k hk (ht _ hlink) (fun x h => by rw [← hself]; exact h) hfin hd hn hfit hl hdg (fun H1 locs1 hP1 hD1 hS1 => kk H1 locs1 (mW.set hk0 hi h3 h4 hP1 hD1) hS1)
theorem m_putF {C ref : String} {T : u_T} {N ci index : Nat} {fs : List Value} {v : Value} {ty : FieldType} (X : mX Γ p m c cc nL s args own A) (hw : mW Γ.1 vwCl A L M H) (hS : va_S A s.heap H locs) (hi : mget M i = some (.inr (ci, fs))) (hc : vwCl[ci]? = some (C, T, N)) (hin : ∀ w ∈ u_ws C T N, w ∈ gw) (ty0 : Nat → FieldType) (hty : ∀ k, k < N → parseFieldDescriptor (T k).2.2.1 = some (ty0 k)) (hnm : ∀ a, a < N → ∀ b, b < N → a ≠ b → (T a).2.1 ≠ (T b).2.1) (k : Nat) (hk : k < N) (hlink : Cond.fieldLink own index ref (T k).2.1 (T k).2.2.1 ∈ gw) (hself : (T k).1 = ref) (hfin : (T k).2.2.2 = true) (hinit : meth.name = "<init>") (hdecl : (T k).1 = own) (hd : parseFieldDescriptor (T k).2.2.1 = some ty) (hn : narrow ty v = v) (hfit : fits ty v = true) (hl : k < fs.length) (hdg : decode cc pc = .ok (.putfield index, 3))
    (kk : ∀ (H1 : Heap) (locs1 : List Loc), mW Γ.1 vwCl A L (mset M i (.inr (ci, fs.set k v))) H1 → va_S A s.heap H1 locs1 → W p l e R s m args below meth c H1 locs1 cells slots Q (F0 m (pc + 3) ls rest)) : W p l e R s m args below meth c H locs cells slots Q (F0 m pc ls (v :: .ref (L i) :: rest)) := by
  obtain ⟨ws, hP, hD, h3, h4⟩ := hw
  obtain ⟨k0, hk0⟩ := h3 i _ hi
  have ht := X.1.2.2.2.2
  exact va_putF X.1.1 X.1.2.1 ht hin ty0 hty hnm X.1.2.2.2.1 X.2.1.1 hP hD hS k0 hk0 hc k hk (ht _ hlink) (fun x h => by rw [← hself]; exact h) hfin hinit hdecl hd hn hfit hl hdg (fun H1 locs1 hP1 hD1 hS1 => kk H1 locs1 (mW.set hk0 hi h3 h4 hP1 hD1) hS1)
theorem m_iald {n : Nat} {f : Nat → Int32} {x : Int32} (X : mX Γ p m c cc nL s args own A) (hw : mW Γ.1 vwCl A L M H) (hi : mget M i = some (.inl (Γ.2.1 0, n, .inl f))) (hin : vp_in x n) (hdg : decode cc pc = .ok (.iaload, 1))
    (kk : W p l e R s m args below meth c H locs cells slots Q (F0 m (pc + 1) ls (.int (f x.toNatClampNeg) :: rest))) : W p l e R s m args below meth c H locs cells slots Q (F0 m pc ls (.int x :: .ref (L i) :: rest)) := by
  obtain ⟨ws, hP, hD, h3, h4⟩ := hw
  obtain ⟨k0, hk0⟩ := h3 i _ hi
  exact va_iald X.1.1 X.1.2.1 X.2.1.1 hP k0 0 hk0 rfl hin hdg kk
theorem m_lald {n : Nat} {f : Nat → Int64} {x : Int32} (X : mX Γ p m c cc nL s args own A) (hw : mW Γ.1 vwCl A L M H) (hi : mget M i = some (.inl (Γ.2.1 1, n, .inr (.inl f)))) (hin : vp_in x n) (hdg : decode cc pc = .ok (.laload, 1))
    (kk : W p l e R s m args below meth c H locs cells slots Q (F0 m (pc + 1) ls (.long (f x.toNatClampNeg) :: rest))) : W p l e R s m args below meth c H locs cells slots Q (F0 m pc ls (.int x :: .ref (L i) :: rest)) := by
  obtain ⟨ws, hP, hD, h3, h4⟩ := hw
  obtain ⟨k0, hk0⟩ := h3 i _ hi
  exact va_lald X.1.1 X.1.2.1 X.2.1.1 hP k0 1 hk0 rfl hin hdg kk
theorem m_zald {n : Nat} {f : Nat → Int32} {x : Int32} (X : mX Γ p m c cc nL s args own A) (hw : mW Γ.1 vwCl A L M H) (hi : mget M i = some (.inl (Γ.2.1 2, n, .inl f))) (hin : vp_in x n) (hdg : decode cc pc = .ok (.baload, 1))
    (kk : W p l e R s m args below meth c H locs cells slots Q (F0 m (pc + 1) ls (.int (f x.toNatClampNeg) :: rest))) : W p l e R s m args below meth c H locs cells slots Q (F0 m pc ls (.int x :: .ref (L i) :: rest)) := by
  obtain ⟨ws, hP, hD, h3, h4⟩ := hw
  obtain ⟨k0, hk0⟩ := h3 i _ hi
  exact va_zald X.1.1 X.1.2.1 X.2.1.1 hP k0 2 hk0 rfl hin hdg kk
theorem m_aald {n t : Nat} {C : String} {f : Nat → Option Nat} {x : Int32} (X : mX Γ p m c cc nL s args own A) (hw : mW Γ.1 vwCl A L M H) (ht : (mTy Γ)[t]? = some (Γ.2.1 t, .object C)) (hi : mget M i = some (.inl (Γ.2.1 t, n, .inr (.inr (.inr (.inr f)))))) (hin : vp_in x n) (hdg : decode cc pc = .ok (.aaload, 1))
    (kk : W p l e R s m args below meth c H locs cells slots Q (F0 m (pc + 1) ls (va_rf (f x.toNatClampNeg) :: rest))) : W p l e R s m args below meth c H locs cells slots Q (F0 m pc ls (.int x :: .ref (L i) :: rest)) := by
  obtain ⟨ws, hP, hD, h3, h4⟩ := hw
  obtain ⟨k0, hk0⟩ := h3 i _ hi
  exact va_aldq X.1.1 X.1.2.1 X.2.1.1 hP k0 t hk0 ht hin hdg kk
theorem m_iast {n : Nat} {f : Nat → Int32} {x v : Int32} (X : mX Γ p m c cc nL s args own A) (hw : mW Γ.1 vwCl A L M H) (hS : va_S A s.heap H locs) (hi : mget M i = some (.inl (Γ.2.1 0, n, .inl f))) (hin : vp_in x n) (hdg : decode cc pc = .ok (.iastore, 1))
    (kk : ∀ (H1 : Heap) (locs1 : List Loc), mW Γ.1 vwCl A L (mset M i (.inl (Γ.2.1 0, n, .inl (upd f x.toNatClampNeg v)))) H1 → va_S A s.heap H1 locs1 → W p l e R s m args below meth c H1 locs1 cells slots Q (F0 m (pc + 1) ls rest)) : W p l e R s m args below meth c H locs cells slots Q (F0 m pc ls (.int v :: .int x :: .ref (L i) :: rest)) := by
  obtain ⟨ws, hP, hD, h3, h4⟩ := hw
  obtain ⟨k0, hk0⟩ := h3 i _ hi
  exact va_iast X.1.1 X.1.2.1 X.2.1.1 hP hD hS k0 0 hk0 rfl hin hdg (fun H1 locs1 hP1 hD1 hS1 => kk H1 locs1 (mW.set hk0 hi h3 h4 hP1 hD1) hS1)
theorem m_zast {n : Nat} {f : Nat → Int32} {x v : Int32} (X : mX Γ p m c cc nL s args own A) (hw : mW Γ.1 vwCl A L M H) (hS : va_S A s.heap H locs) (hi : mget M i = some (.inl (Γ.2.1 2, n, .inl f))) (hin : vp_in x n) (hdg : decode cc pc = .ok (.bastore, 1))
    (kk : ∀ (H1 : Heap) (locs1 : List Loc), mW Γ.1 vwCl A L (mset M i (.inl (Γ.2.1 2, n, .inl (upd f x.toNatClampNeg (vp_nar .boolean v))))) H1 → va_S A s.heap H1 locs1 → W p l e R s m args below meth c H1 locs1 cells slots Q (F0 m (pc + 1) ls rest)) : W p l e R s m args below meth c H locs cells slots Q (F0 m pc ls (.int v :: .int x :: .ref (L i) :: rest)) := by
  obtain ⟨ws, hP, hD, h3, h4⟩ := hw
  obtain ⟨k0, hk0⟩ := h3 i _ hi
  exact va_zast X.1.1 X.1.2.1 X.2.1.1 hP hD hS k0 2 hk0 rfl hin hdg (fun H1 locs1 hP1 hD1 hS1 => kk H1 locs1 (mW.set hk0 hi h3 h4 hP1 hD1) hS1)
theorem m_last {n : Nat} {f : Nat → Int64} {x : Int32} {v : Int64} (X : mX Γ p m c cc nL s args own A) (hw : mW Γ.1 vwCl A L M H) (hS : va_S A s.heap H locs) (hi : mget M i = some (.inl (Γ.2.1 1, n, .inr (.inl f)))) (hin : vp_in x n) (hdg : decode cc pc = .ok (.lastore, 1))
    (kk : ∀ (H1 : Heap) (locs1 : List Loc), mW Γ.1 vwCl A L (mset M i (.inl (Γ.2.1 1, n, .inr (.inl (vp_updL f x.toNatClampNeg v))))) H1 → va_S A s.heap H1 locs1 → W p l e R s m args below meth c H1 locs1 cells slots Q (F0 m (pc + 1) ls rest)) : W p l e R s m args below meth c H locs cells slots Q (F0 m pc ls (.long v :: .int x :: .ref (L i) :: rest)) := by
  obtain ⟨ws, hP, hD, h3, h4⟩ := hw
  obtain ⟨k0, hk0⟩ := h3 i _ hi
  exact va_last X.1.1 X.1.2.1 X.2.1.1 hP hD hS k0 1 hk0 rfl hin hdg (fun H1 locs1 hP1 hD1 hS1 => kk H1 locs1 (mW.set hk0 hi h3 h4 hP1 hD1) hS1)
theorem m_aast {n t ci : Nat} {j : mI} {q : vw_C} {f : Nat → Option Nat} {fs : List Value} {x : Int32} (X : mX Γ p m c cc nL s args own A) (hw : mW Γ.1 vwCl A L M H) (hS : va_S A s.heap H locs) (ht : (mTy Γ)[t]? = some (Γ.2.1 t, .object q.1)) (hi : mget M i = some (.inl (Γ.2.1 t, n, .inr (.inr (.inr (.inr f)))))) (hj : mget M j = some (.inr (ci, fs))) (hc : vwCl[ci]? = some q) (hin : vp_in x n) (hdg : decode cc pc = .ok (.aastore, 1))
    (kk : ∀ (H1 : Heap) (locs1 : List Loc), mW Γ.1 vwCl A L (mset M i (.inl (Γ.2.1 t, n, .inr (.inr (.inr (.inr (va_up f x.toNatClampNeg (some (L j)))))))))  H1 → va_S A s.heap H1 locs1 → W p l e R s m args below meth c H1 locs1 cells slots Q (F0 m (pc + 1) ls rest)) : W p l e R s m args below meth c H locs cells slots Q (F0 m pc ls (.ref (L j) :: .int x :: .ref (L i) :: rest)) := by
  obtain ⟨ws, hP, hD, h3, h4⟩ := hw
  obtain ⟨k0, hk0⟩ := h3 i _ hi
  obtain ⟨k1, hk1⟩ := h3 j _ hj
  exact va_astq X.1.1 X.1.2.1 X.2.1.1 hP hD hS k0 t k1 ci hk0 ht hk1 hc hin hdg (fun H1 locs1 hP1 hD1 hS1 => kk H1 locs1 (mW.set hk0 hi h3 h4 hP1 hD1) hS1)
theorem m_new {C : String} {T : u_T} {N ci index : Nat} {fs : List Value} {M' : mM} (X : mX Γ p m c cc nL s args own A) (hw : mW Γ.1 vwCl A L M H) (hS : va_S A s.heap H locs) (i : mI) (hc : vwCl[ci]? = some (C, T, N)) (hin : ∀ w ∈ u_ws C T N, w ∈ gw) (ty : Nat → FieldType) (hty : ∀ k, k < N → parseFieldDescriptor (T k).2.2.1 = some (ty k)) (hcl : Cond.classLink own index C ∈ gw) (hins : Cond.instantiable C N ∈ gw) (hini : Cond.initialized C ∈ gw) (hfs : ∀ j, j < N → defaultValue (ty j) = vp_V fs j) (h1 : mget M' i = some (.inr (ci, fs))) (h2 : ∀ j, j ≠ i → mget M' j = mget M j) (hcells : cells + 1 ≤ R.cells) (hslots : slots + N ≤ R.slots) (hdg : decode cc pc = .ok (.new index, 3))
    (kk : ∀ (q : Nat) (H1 : Heap), mW Γ.1 vwCl A (updI L i q) M' H1 → va_S A s.heap H1 locs → W p l e R s m args below meth c H1 locs (cells + 1) (slots + N) Q (F0 m (pc + 3) ls (.ref q :: rest))) : W p l e R s m args below meth c H locs cells slots Q (F0 m pc ls rest) := by
  obtain ⟨ws, hP, hD, h3, h4⟩ := hw
  have ht := X.1.2.2.2.2
  exact va_new X.1.1 X.1.2.1 ht hin ty hty X.1.2.2.2.1 (ht _ hcl) (ht _ hins) (ht _ hini) X.2.1.1 hP hD hS X.2.2.2 hc hfs hcells hslots hdg (fun q H1 hP1 hD1 hS1 => kk q H1 (mW.grow h3 h4 hP1 hD1 h1 h2) hS1)
theorem m_newa {atype : ArrayType} {ty : FieldType} {t N' : Nat} {n : Int32} {a0 : vp_A} {M' : mM} (X : mX Γ p m c cc nL s args own A) (hw : mW Γ.1 vwCl A L M H) (hS : va_S A s.heap H locs) (i : mI) (ht : (mTy Γ)[t]? = some (Γ.2.1 t, ty)) (hty : newarray.typeOf atype = ty) (hra : ∀ (U : State) (cA : ClassId), va_RA U cA ty → U.vm.findClass ("[" ++ ty.toString) = some cA) (hac : Cond.arrayClass ty ∈ gw) (ha : ∀ cA : ClassId, vp_cell cA a0 = arrV cA N' (fun _ => defaultValue ty)) (hn : ¬ n < 0) (hN : n.toNatClampNeg = N') (hbytes : N' * componentBytes ty ≤ 536870912) (h1 : mget M' i = some (.inl (Γ.2.1 t, a0))) (h2 : ∀ j, j ≠ i → mget M' j = mget M j) (hcells : cells + 1 ≤ R.cells) (hslots : slots + N' ≤ R.slots) (hdg : decode cc pc = .ok (.newarray atype, 2))
    (kk : ∀ (q : Nat) (H1 : Heap), mW Γ.1 vwCl A (updI L i q) M' H1 → va_S A s.heap H1 locs → W p l e R s m args below meth c H1 locs (cells + 1) (slots + N') Q (F0 m (pc + 2) ls (.ref q :: rest))) : W p l e R s m args below meth c H locs cells slots Q (F0 m pc ls (.int n :: rest)) := by
  obtain ⟨ws, hP, hD, h3, h4⟩ := hw
  have hts := X.1.2.2.2.2
  refine va_newa X.1.1 X.1.2.1 (by rw [hty]; exact hts _ hac) hty X.2.1.1 hP hD hS X.2.2.2 ha hn hN hbytes hcells hslots hdg (fun q cA H1 hK1 hP1 hD1 hS1 => ?_)
  have e : cA = Γ.2.1 t := by
    have z1 := hra s cA (hK1.2 (mTy Γ).length (cA, ty) (by simp)).2
    have z2 := hra s (Γ.2.1 t) (X.2.1.1.2 t _ ht).2
    exact Option.some.inj (z1.symm.trans z2)
  subst e
  exact kk q H1 (mW.grow h3 h4 hP1 hD1 h1 h2) hS1
theorem m_newq {C : String} {index t N' : Nat} {n : Int32} {M' : mM} (X : mX Γ p m c cc nL s args own A) (hw : mW Γ.1 vwCl A L M H) (hS : va_S A s.heap H locs) (i : mI) (ht : (mTy Γ)[t]? = some (Γ.2.1 t, .object C)) (hcl : Cond.classLink own index C ∈ gw) (ho : va_AO C s) (hn : ¬ n < 0) (hN : n.toNatClampNeg = N') (hbytes : N' * 4 ≤ 536870912) (h1 : mget M' i = some (.inl (Γ.2.1 t, N', .inr (.inr (.inr (.inr (fun _ => none))))))) (h2 : ∀ j, j ≠ i → mget M' j = mget M j) (hcells : cells + 1 ≤ R.cells) (hslots : slots + N' ≤ R.slots) (hdg : decode cc pc = .ok (.anewarray index, 3))
    (kk : ∀ (q : Nat) (H1 : Heap), mW Γ.1 vwCl A (updI L i q) M' H1 → va_S A s.heap H1 locs → W p l e R s m args below meth c H1 locs (cells + 1) (slots + N') Q (F0 m (pc + 3) ls (.ref q :: rest))) : W p l e R s m args below meth c H locs cells slots Q (F0 m pc ls (.int n :: rest)) := by
  obtain ⟨ws, hP, hD, h3, h4⟩ := hw
  have hts := X.1.2.2.2.2
  refine va_newq X.1.1 X.1.2.1 X.1.2.2.2.1 (hts _ hcl) ho X.2.1.1 hP hD hS X.2.2.2 hn hN hbytes hcells hslots hdg (fun q cA H1 hK1 hP1 hD1 hS1 => ?_)
  have e : cA = Γ.2.1 t := by
    obtain ⟨_, _, _, _, _, z1⟩ := (hK1.2 (mTy Γ).length (cA, .object C) (by simp)).2
    obtain ⟨_, _, _, _, _, z2⟩ := (X.2.1.1.2 t _ ht).2
    exact Option.some.inj (z1.symm.trans z2)
  subst e
  exact kk q H1 (mW.grow h3 h4 hP1 hD1 h1 h2) hS1
theorem m_copyi {i0 : mI} {index n0 n1 : Nat} {f g : Nat → Int32} {sp dp n : Int32} (X : mX Γ p m c cc nL s args own A) (hw : mW Γ.1 vwCl A L M H) (hS : va_S A s.heap H locs) (hsz : ls.size = nL) (hl : Cond.methodLink own index arraycopyName ∈ gw) (hi0 : mget M i0 = some (.inl (Γ.2.1 0, n0, .inl f))) (hi : mget M i = some (.inl (Γ.2.1 0, n1, .inl g))) (h1 : ¬ sp < 0) (h2 : ¬ dp < 0) (h3 : ¬ n < 0) (h4 : sp.toNatClampNeg + n.toNatClampNeg ≤ n0) (h5 : dp.toNatClampNeg + n.toNatClampNeg ≤ n1) (hfr : 1 ≤ R.frames) (hlo : (rest.map fun v => v.category).sum + (nativeFrameWords "java/lang/System" "arraycopy" 5 + 11) ≤ R.locals) (hdg : decode cc pc = .ok (.invokestatic index, 3))
    (kk : ∀ (H1 : Heap) (locs1 : List Loc), mW Γ.1 vwCl A L (mset M i (.inl (Γ.2.1 0, n1, .inl (va_cpy f g sp.toNatClampNeg dp.toNatClampNeg n.toNatClampNeg)))) H1 → va_S A s.heap H1 locs1 → W p l e R s m args below meth c H1 locs1 cells slots Q (F0 m (pc + 3) ls rest)) : W p l e R s m args below meth c H locs cells slots Q (F0 m pc ls (.int n :: .int dp :: .ref (L i) :: .int sp :: .ref (L i0) :: rest)) := by
  obtain ⟨ws, hP, hD, w3, w4⟩ := hw
  obtain ⟨k0, hk0⟩ := w3 i0 _ hi0
  obtain ⟨k1, hk1⟩ := w3 i _ hi
  have hts := X.1.2.2.2.2
  exact va_copyi X.1.1 X.1.2.1 (by rw [X.1.2.2.1, hsz]) X.1.2.2.2.1 (hts _ hl) (hts _ nat_copy) (hts _ st_arraycopyName) (hts _ ini_J10) X.2.1.1 hP hD hS k0 k1 0 0 hk0 hk1 rfl rfl rfl h1 h2 h3 h4 h5 (fun _ _ => rfl) hfr hlo hdg (fun H1 locs1 hP1 hD1 hS1 => kk H1 locs1 (mW.set hk1 hi w3 w4 hP1 hD1) hS1)
/-- the static tables -/
theorem m_getUN {index : Nat} {ref : String} (X : mX Γ p m c cc nL s args own A) (hS : va_S A s.heap H locs) (hlink : Cond.fieldLink own index ref "UNDER" "[I" ∈ gw) (hself : ref = RX3) (hdg : decode cc pc = .ok (.getstatic index, 3))
    (kk : W p l e R s m args below meth c H locs cells slots Q (F0 m (pc + 3) ls (.ref (Γ.2.2 0) :: rest))) : W p l e R s m args below meth c H locs cells slots Q (F0 m pc ls rest) :=
  va_gets X.1.1 X.1.2.1 X.2.2.1.1 hS X.1.2.2.2.1 (X.1.2.2.2.2 _ hlink) (fun x h => by rw [hself]; exact h) hdg kk
theorem m_getAB {index : Nat} {ref : String} (X : mX Γ p m c cc nL s args own A) (hS : va_S A s.heap H locs) (hlink : Cond.fieldLink own index ref "ABOVE" "[I" ∈ gw) (hself : ref = RX3) (hdg : decode cc pc = .ok (.getstatic index, 3))
    (kk : W p l e R s m args below meth c H locs cells slots Q (F0 m (pc + 3) ls (.ref (Γ.2.2 1) :: rest))) : W p l e R s m args below meth c H locs cells slots Q (F0 m pc ls rest) :=
  va_gets X.1.1 X.1.2.1 X.2.2.1.2.2.1 hS X.1.2.2.2.1 (X.1.2.2.2.2 _ hlink) (fun x h => by rw [hself]; exact h) hdg kk
theorem m_ldUN {x : Int32} (X : mX Γ p m c cc nL s args own A) (hS : va_S A s.heap H locs) (hin : vp_in x 8) (hdg : decode cc pc = .ok (.iaload, 1))
    (kk : W p l e R s m args below meth c H locs cells slots Q (F0 m (pc + 1) ls (.int (mUN x.toNatClampNeg) :: rest))) : W p l e R s m args below meth c H locs cells slots Q (F0 m pc ls (.int x :: .ref (Γ.2.2 0) :: rest)) :=
  va_ti X.1.1 X.1.2.1 X.2.2.1.2.1 hS hin rfl hdg kk
theorem m_ldAB {x : Int32} (X : mX Γ p m c cc nL s args own A) (hS : va_S A s.heap H locs) (hin : vp_in x 8) (hdg : decode cc pc = .ok (.iaload, 1))
    (kk : W p l e R s m args below meth c H locs cells slots Q (F0 m (pc + 1) ls (.int (mAB x.toNatClampNeg) :: rest))) : W p l e R s m args below meth c H locs cells slots Q (F0 m pc ls (.int x :: .ref (Γ.2.2 1) :: rest)) :=
  va_ti X.1.1 X.1.2.1 X.2.2.1.2.2.2 hS hin rfl hdg kk
end MI
