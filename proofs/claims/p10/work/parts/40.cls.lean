/-! THE CLASS'S WORLD: names of family 0; what a step leaves as it was -/
abbrev nm (a b : Nat) : mI := .inr (0, a, b)
/-- names: single ones, and whole rows of the family -/
def inN (ns : List (Nat × Nat)) (rows : List Nat) (j : mI) : Bool := match j with
  | .inr (0, a, b) => rows.contains a || ns.contains (a, b)
  | _ => false
theorem inN_sub {ns ns' : List (Nat × Nat)} {rows rows' : List Nat} {j : mI} (h1 : ns'.all (fun x => rows.contains x.1 || ns.contains x) = true) (h2 : rows'.all (fun a => rows.contains a) = true) (h : inN ns rows j = false) : inN ns' rows' j = false := by
  rcases j with k | ⟨t, a, b⟩
  · rfl
  · cases t with
    | succ t => rfl
    | zero =>
      have h0 : rows.contains a = false ∧ ns.contains (a, b) = false := by simpa [inN] using h
      have g1 : rows'.contains a = false := by
        cases e : rows'.contains a with
        | false => rfl
        | true =>
          have := List.all_eq_true.mp h2 a (List.contains_iff_mem.mp e)
          rw [h0.1] at this; cases this
      have g2 : ns'.contains (a, b) = false := by
        cases e : ns'.contains (a, b) with
        | false => rfl
        | true =>
          have := List.all_eq_true.mp h1 (a, b) (List.contains_iff_mem.mp e)
          simp only [h0.1, h0.2] at this; cases this
      show (rows'.contains a || ns'.contains (a, b)) = false
      rw [g1, g2]; rfl
theorem inN_ne {N : mI → Bool} {i j : mI} (hj : N j = false) (hi : N i = true) : j ≠ i := fun e => by rw [e, hi] at hj; cases hj
/-- one cell is new or changed -/
def mUp (M : mM) (i : mI) (e : va_E) (M1 : mM) : Prop := mget M1 i = some e ∧ (∀ j, j ≠ i → mget M1 j = mget M j) ∧ (0 < M.2.length → 0 < M1.2.length)
theorem mset_len {M : mM} {i : mI} {e : va_E} : (mset M i e).2.length = M.2.length := by
  rcases i with k | ⟨t, a, b⟩
  · rfl
  · show (match M.2[t]? with | some f => M.2.set t (up2 f a b e) | none => M.2).length = _
    cases M.2[t]? with
    | none => rfl
    | some f => exact List.length_set
theorem mUp.set {M : mM} {i : mI} {e0 e : va_E} (h : mget M i = some e0) : mUp M i e (mset M i e) := ⟨mget_self h, fun _ hj => mget_ne hj, fun z => by rw [mset_len]; exact z⟩
theorem mUp.fam {M : mM} {a b : Nat} {e : va_E} (h : 0 < M.2.length) : mUp M (nm a b) e (mset M (nm a b) e) := by
  obtain ⟨f, hf⟩ : ∃ f, M.2[0]? = some f := ⟨_, List.getElem?_eq_getElem h⟩
  exact ⟨mget_selfF hf, fun _ hj => mget_ne hj, fun z => by rw [mset_len]; exact z⟩
/-- since L0, M0: new names N, changed cells C -/
def cP (L0 : mI → Nat) (M0 : mM) (L1 : mI → Nat) (M1 : mM) (N C : mI → Bool) : Prop := (∀ j, N j = false → L1 j = L0 j) ∧ (∀ j, N j = false → C j = false → mget M1 j = mget M0 j) ∧ (0 < M0.2.length → 0 < M1.2.length)
theorem cP.rf {L : mI → Nat} {M : mM} {N C : mI → Bool} : cP L M L M N C := ⟨fun _ _ => rfl, fun _ _ _ => rfl, id⟩
theorem cP.up {L0 L : mI → Nat} {M0 M M1 : mM} {N C : mI → Bool} {i : mI} {e : va_E} (h : cP L0 M0 L M N C) (u : mUp M i e M1) (hi : (N i || C i) = true) : cP L0 M0 L M1 N C := by
  refine ⟨h.1, fun j h1 h2 => ?_, fun z => u.2.2 (h.2.2 z)⟩
  rw [u.2.1 j (fun e => by rw [e] at h1 h2; rw [h1, h2] at hi; cases hi)]
  exact h.2.1 j h1 h2
theorem cP.new {L0 L L1 : mI → Nat} {M0 M M1 : mM} {N C : mI → Bool} {i : mI} {e : va_E} (h : cP L0 M0 L M N C) (u : mUp M i e M1) (hL : ∀ j, j ≠ i → L1 j = L j) (hi : N i = true) : cP L0 M0 L1 M1 N C := by
  refine ⟨fun j h1 => ?_, fun j h1 h2 => ?_, fun z => u.2.2 (h.2.2 z)⟩
  · rw [hL j (inN_ne h1 hi)]; exact h.1 j h1
  · rw [u.2.1 j (inN_ne h1 hi)]; exact h.2.1 j h1 h2
theorem cP.call {L0 L L1 : mI → Nat} {M0 M M1 : mM} {N C N' C' : mI → Bool} (h : cP L0 M0 L M N C) (u : cP L M L1 M1 N' C') (hN : ∀ j, N j = false → N' j = false) (hC : ∀ j, N j = false → C j = false → C' j = false) : cP L0 M0 L1 M1 N C :=
  ⟨fun j h1 => (u.1 j (hN j h1)).trans (h.1 j h1), fun j h1 h2 => (u.2.1 j (hN j h1) (hC j h1 h2)).trans (h.2.1 j h1 h2), fun z => u.2.2 (h.2.2 z)⟩
section CI
variable {p : Program} {l : Launch} {e : Env} {R : Room} {s : State} {m : MethodId} {args : Array Value} {below : List Frame} {meth : Method} {c : Code} {H : Heap} {locs : List Loc} {cells slots : Nat} {Q : State → Prop}
variable {cc : ByteArray} {pc nL : Nat} {ls : Array Slot} {rest : List Value} {Γ : mG} {A : Nat → Prop} {L : mI → Nat} {M : mM} {own : String} {i : mI} {r : Nat}
theorem c_get {C ref : String} {T : u_T} {N ci index : Nat} {fs : List Value} {v : Value} (X : mX Γ p m c cc nL s args own A) (hw : mW Γ.1 vwCl A L M H) (hr : L i = r) (hi : mget M i = some (.inr (ci, fs))) (hc : vwCl[ci]? = some (C, T, N)) (hin : ∀ w ∈ u_ws C T N, w ∈ gw) (k : Nat) (hk : k < N) (hlink : Cond.fieldLink own index ref (T k).2.1 (T k).2.2.1 ∈ gw) (hself : (T k).1 = ref) (hv : fs[k]? = some v) (hdg : decode cc pc = .ok (.getfield index, 3))
    (kk : W p l e R s m args below meth c H locs cells slots Q (F0 m (pc + 3) ls (v :: rest))) : W p l e R s m args below meth c H locs cells slots Q (F0 m pc ls (.ref r :: rest)) := by
  subst hr
  exact m_get X hw hi hc hin k hk hlink hself hv hdg kk
theorem c_put {C ref : String} {T : u_T} {N ci index : Nat} {fs fs1 : List Value} {v : Value} {ty : FieldType} (X : mX Γ p m c cc nL s args own A) (hw : mW Γ.1 vwCl A L M H) (hS : va_S A s.heap H locs) (hr : L i = r) (hi : mget M i = some (.inr (ci, fs))) (hc : vwCl[ci]? = some (C, T, N)) (hin : ∀ w ∈ u_ws C T N, w ∈ gw) (ty0 : Nat → FieldType) (hty : ∀ k, k < N → parseFieldDescriptor (T k).2.2.1 = some (ty0 k)) (hnm : ∀ a, a < N → ∀ b, b < N → a ≠ b → (T a).2.1 ≠ (T b).2.1) (k : Nat) (hk : k < N) (hlink : Cond.fieldLink own index ref (T k).2.1 (T k).2.2.1 ∈ gw) (hself : (T k).1 = ref) (hfin : (T k).2.2.2 = false) (hd : parseFieldDescriptor (T k).2.2.1 = some ty) (hn : narrow ty v = v) (hfit : fits ty v = true) (hl : k < fs.length) (hfs : fs.set k v = fs1) (hdg : decode cc pc = .ok (.putfield index, 3))
    (kk : ∀ (M1 : mM) (H1 : Heap) (locs1 : List Loc), mUp M i (.inr (ci, fs1)) M1 → mW Γ.1 vwCl A L M1 H1 → va_S A s.heap H1 locs1 → W p l e R s m args below meth c H1 locs1 cells slots Q (F0 m (pc + 3) ls rest)) : W p l e R s m args below meth c H locs cells slots Q (F0 m pc ls (v :: .ref r :: rest)) := by
  subst hr hfs
  exact m_put X hw hS hi hc hin ty0 hty hnm k hk hlink hself hfin hd hn hfit hl hdg (fun H1 locs1 h1 h2 => kk _ H1 locs1 (mUp.set hi) h1 h2)
theorem c_putF {C ref : String} {T : u_T} {N ci index : Nat} {fs fs1 : List Value} {v : Value} {ty : FieldType} (X : mX Γ p m c cc nL s args own A) (hw : mW Γ.1 vwCl A L M H) (hS : va_S A s.heap H locs) (hr : L i = r) (hi : mget M i = some (.inr (ci, fs))) (hc : vwCl[ci]? = some (C, T, N)) (hin : ∀ w ∈ u_ws C T N, w ∈ gw) (ty0 : Nat → FieldType) (hty : ∀ k, k < N → parseFieldDescriptor (T k).2.2.1 = some (ty0 k)) (hnm : ∀ a, a < N → ∀ b, b < N → a ≠ b → (T a).2.1 ≠ (T b).2.1) (k : Nat) (hk : k < N) (hlink : Cond.fieldLink own index ref (T k).2.1 (T k).2.2.1 ∈ gw) (hself : (T k).1 = ref) (hfin : (T k).2.2.2 = true) (hinit : meth.name = "<init>") (hdecl : (T k).1 = own) (hd : parseFieldDescriptor (T k).2.2.1 = some ty) (hn : narrow ty v = v) (hfit : fits ty v = true) (hl : k < fs.length) (hfs : fs.set k v = fs1) (hdg : decode cc pc = .ok (.putfield index, 3))
    (kk : ∀ (M1 : mM) (H1 : Heap) (locs1 : List Loc), mUp M i (.inr (ci, fs1)) M1 → mW Γ.1 vwCl A L M1 H1 → va_S A s.heap H1 locs1 → W p l e R s m args below meth c H1 locs1 cells slots Q (F0 m (pc + 3) ls rest)) : W p l e R s m args below meth c H locs cells slots Q (F0 m pc ls (v :: .ref r :: rest)) := by
  subst hr hfs
  exact m_putF X hw hS hi hc hin ty0 hty hnm k hk hlink hself hfin hinit hdecl hd hn hfit hl hdg (fun H1 locs1 h1 h2 => kk _ H1 locs1 (mUp.set hi) h1 h2)
theorem c_new {C : String} {T : u_T} {N ci index : Nat} {fs : List Value} (X : mX Γ p m c cc nL s args own A) (hw : mW Γ.1 vwCl A L M H) (hS : va_S A s.heap H locs) (hM : 0 < M.2.length) (a b : Nat) (hc : vwCl[ci]? = some (C, T, N)) (hin : ∀ w ∈ u_ws C T N, w ∈ gw) (ty : Nat → FieldType) (hty : ∀ k, k < N → parseFieldDescriptor (T k).2.2.1 = some (ty k)) (hcl : Cond.classLink own index C ∈ gw) (hins : Cond.instantiable C N ∈ gw) (hini : Cond.initialized C ∈ gw) (hfs : ∀ j, j < N → defaultValue (ty j) = vp_V fs j) (hcells : cells + 1 ≤ R.cells) (hslots : slots + N ≤ R.slots) (hdg : decode cc pc = .ok (.new index, 3))
    (kk : ∀ (q : Nat) (L1 : mI → Nat) (M1 : mM) (H1 : Heap), L1 (nm a b) = q → (∀ j, j ≠ nm a b → L1 j = L j) → mUp M (nm a b) (.inr (ci, fs)) M1 → mW Γ.1 vwCl A L1 M1 H1 → va_S A s.heap H1 locs → W p l e R s m args below meth c H1 locs (cells + 1) (slots + N) Q (F0 m (pc + 3) ls (.ref q :: rest))) : W p l e R s m args below meth c H locs cells slots Q (F0 m pc ls rest) := by
  have hu : mUp M (nm a b) (.inr (ci, fs)) (mset M (nm a b) (.inr (ci, fs))) := mUp.fam hM
  exact m_new X hw hS (nm a b) hc hin ty hty hcl hins hini hfs hu.1 hu.2.1 hcells hslots hdg (fun q H1 h1 h2 => kk q _ _ H1 updI_self (fun j hj => updI_ne hj) hu h1 h2)
theorem c_newi {N' : Nat} {n : Int32} (X : mX Γ p m c cc nL s args own A) (hw : mW Γ.1 vwCl A L M H) (hS : va_S A s.heap H locs) (hM : 0 < M.2.length) (a b : Nat) (hn : ¬ n < 0) (hN : n.toNatClampNeg = N') (hbytes : N' * 4 ≤ 536870912) (hcells : cells + 1 ≤ R.cells) (hslots : slots + N' ≤ R.slots) (hdg : decode cc pc = .ok (.newarray .int, 2))
    (kk : ∀ (q : Nat) (L1 : mI → Nat) (M1 : mM) (H1 : Heap), L1 (nm a b) = q → (∀ j, j ≠ nm a b → L1 j = L j) → mUp M (nm a b) (.inl (Γ.2.1 0, N', .inl (fun _ => 0))) M1 → mW Γ.1 vwCl A L1 M1 H1 → va_S A s.heap H1 locs → W p l e R s m args below meth c H1 locs (cells + 1) (slots + N') Q (F0 m (pc + 2) ls (.ref q :: rest))) : W p l e R s m args below meth c H locs cells slots Q (F0 m pc ls (.int n :: rest)) := by
  have hu : mUp M (nm a b) (.inl (Γ.2.1 0, N', .inl (fun _ => 0))) (mset M (nm a b) (.inl (Γ.2.1 0, N', .inl (fun _ => 0)))) := mUp.fam hM
  exact m_newa (ty := .int) (t := 0) X hw hS (nm a b) rfl rfl (fun _ _ h => h) ac_int (fun _ => rfl) hn hN hbytes hu.1 hu.2.1 hcells hslots hdg (fun q H1 h1 h2 => kk q _ _ H1 updI_self (fun j hj => updI_ne hj) hu h1 h2)
theorem c_newl {N' : Nat} {n : Int32} (X : mX Γ p m c cc nL s args own A) (hw : mW Γ.1 vwCl A L M H) (hS : va_S A s.heap H locs) (hM : 0 < M.2.length) (a b : Nat) (hn : ¬ n < 0) (hN : n.toNatClampNeg = N') (hbytes : N' * 8 ≤ 536870912) (hcells : cells + 1 ≤ R.cells) (hslots : slots + N' ≤ R.slots) (hdg : decode cc pc = .ok (.newarray .long, 2))
    (kk : ∀ (q : Nat) (L1 : mI → Nat) (M1 : mM) (H1 : Heap), L1 (nm a b) = q → (∀ j, j ≠ nm a b → L1 j = L j) → mUp M (nm a b) (.inl (Γ.2.1 1, N', .inr (.inl (fun _ => 0)))) M1 → mW Γ.1 vwCl A L1 M1 H1 → va_S A s.heap H1 locs → W p l e R s m args below meth c H1 locs (cells + 1) (slots + N') Q (F0 m (pc + 2) ls (.ref q :: rest))) : W p l e R s m args below meth c H locs cells slots Q (F0 m pc ls (.int n :: rest)) := by
  have hu : mUp M (nm a b) (.inl (Γ.2.1 1, N', .inr (.inl (fun _ => 0)))) (mset M (nm a b) (.inl (Γ.2.1 1, N', .inr (.inl (fun _ => 0))))) := mUp.fam hM
  exact m_newa (ty := .long) (t := 1) X hw hS (nm a b) rfl rfl (fun _ _ h => h) ac_long (fun _ => rfl) hn hN hbytes hu.1 hu.2.1 hcells hslots hdg (fun q H1 h1 h2 => kk q _ _ H1 updI_self (fun j hj => updI_ne hj) hu h1 h2)
theorem c_newz {N' : Nat} {n : Int32} (X : mX Γ p m c cc nL s args own A) (hw : mW Γ.1 vwCl A L M H) (hS : va_S A s.heap H locs) (hM : 0 < M.2.length) (a b : Nat) (hn : ¬ n < 0) (hN : n.toNatClampNeg = N') (hbytes : N' * 1 ≤ 536870912) (hcells : cells + 1 ≤ R.cells) (hslots : slots + N' ≤ R.slots) (hdg : decode cc pc = .ok (.newarray .boolean, 2))
    (kk : ∀ (q : Nat) (L1 : mI → Nat) (M1 : mM) (H1 : Heap), L1 (nm a b) = q → (∀ j, j ≠ nm a b → L1 j = L j) → mUp M (nm a b) (.inl (Γ.2.1 2, N', .inl (fun _ => 0))) M1 → mW Γ.1 vwCl A L1 M1 H1 → va_S A s.heap H1 locs → W p l e R s m args below meth c H1 locs (cells + 1) (slots + N') Q (F0 m (pc + 2) ls (.ref q :: rest))) : W p l e R s m args below meth c H locs cells slots Q (F0 m pc ls (.int n :: rest)) := by
  have hu : mUp M (nm a b) (.inl (Γ.2.1 2, N', .inl (fun _ => 0))) (mset M (nm a b) (.inl (Γ.2.1 2, N', .inl (fun _ => 0)))) := mUp.fam hM
  exact m_newa (ty := .boolean) (t := 2) X hw hS (nm a b) rfl rfl (fun _ _ h => h) ac_boolean (fun _ => rfl) hn hN hbytes hu.1 hu.2.1 hcells hslots hdg (fun q H1 h1 h2 => kk q _ _ H1 updI_self (fun j hj => updI_ne hj) hu h1 h2)
theorem c_newq {C : String} {index t N' : Nat} {n : Int32} (X : mX Γ p m c cc nL s args own A) (hw : mW Γ.1 vwCl A L M H) (hS : va_S A s.heap H locs) (hM : 0 < M.2.length) (a b : Nat) (ht : (mTy Γ)[t]? = some (Γ.2.1 t, .object C)) (hcl : Cond.classLink own index C ∈ gw) (ho : va_AO C s) (hn : ¬ n < 0) (hN : n.toNatClampNeg = N') (hbytes : N' * 4 ≤ 536870912) (hcells : cells + 1 ≤ R.cells) (hslots : slots + N' ≤ R.slots) (hdg : decode cc pc = .ok (.anewarray index, 3))
    (kk : ∀ (q : Nat) (L1 : mI → Nat) (M1 : mM) (H1 : Heap), L1 (nm a b) = q → (∀ j, j ≠ nm a b → L1 j = L j) → mUp M (nm a b) (.inl (Γ.2.1 t, N', .inr (.inr (.inr (.inr (fun _ => none)))))) M1 → mW Γ.1 vwCl A L1 M1 H1 → va_S A s.heap H1 locs → W p l e R s m args below meth c H1 locs (cells + 1) (slots + N') Q (F0 m (pc + 3) ls (.ref q :: rest))) : W p l e R s m args below meth c H locs cells slots Q (F0 m pc ls (.int n :: rest)) := by
  have hu : mUp M (nm a b) (.inl (Γ.2.1 t, N', .inr (.inr (.inr (.inr (fun _ => none)))))) (mset M (nm a b) (.inl (Γ.2.1 t, N', .inr (.inr (.inr (.inr (fun _ => none))))))) := mUp.fam hM
  exact m_newq X hw hS (nm a b) ht hcl ho hn hN hbytes hu.1 hu.2.1 hcells hslots hdg (fun q H1 h1 h2 => kk q _ _ H1 updI_self (fun j hj => updI_ne hj) hu h1 h2)
theorem c_aast {n t ci : Nat} {j : mI} {rj : Nat} {q : vw_C} {f : Nat → Option Nat} {fs : List Value} {x : Int32} (X : mX Γ p m c cc nL s args own A) (hw : mW Γ.1 vwCl A L M H) (hS : va_S A s.heap H locs) (hr : L i = r) (hrj : L j = rj) (ht : (mTy Γ)[t]? = some (Γ.2.1 t, .object q.1)) (hi : mget M i = some (.inl (Γ.2.1 t, n, .inr (.inr (.inr (.inr f)))))) (hj : mget M j = some (.inr (ci, fs))) (hc : vwCl[ci]? = some q) (hin : vp_in x n) (hdg : decode cc pc = .ok (.aastore, 1))
    (kk : ∀ (M1 : mM) (H1 : Heap) (locs1 : List Loc), mUp M i (.inl (Γ.2.1 t, n, .inr (.inr (.inr (.inr (va_up f x.toNatClampNeg (some rj))))))) M1 → mW Γ.1 vwCl A L M1 H1 → va_S A s.heap H1 locs1 → W p l e R s m args below meth c H1 locs1 cells slots Q (F0 m (pc + 1) ls rest)) : W p l e R s m args below meth c H locs cells slots Q (F0 m pc ls (.ref rj :: .int x :: .ref r :: rest)) := by
  subst hr hrj
  exact m_aast X hw hS ht hi hj hc hin hdg (fun H1 locs1 h1 h2 => kk _ H1 locs1 (mUp.set hi) h1 h2)
theorem c_aald {n t : Nat} {C : String} {f : Nat → Option Nat} {x : Int32} (X : mX Γ p m c cc nL s args own A) (hw : mW Γ.1 vwCl A L M H) (hr : L i = r) (ht : (mTy Γ)[t]? = some (Γ.2.1 t, .object C)) (hi : mget M i = some (.inl (Γ.2.1 t, n, .inr (.inr (.inr (.inr f)))))) (hin : vp_in x n) (hdg : decode cc pc = .ok (.aaload, 1))
    (kk : W p l e R s m args below meth c H locs cells slots Q (F0 m (pc + 1) ls (va_rf (f x.toNatClampNeg) :: rest))) : W p l e R s m args below meth c H locs cells slots Q (F0 m pc ls (.int x :: .ref r :: rest)) := by
  subst hr
  exact m_aald X hw ht hi hin hdg kk
theorem c_iast {n : Nat} {f : Nat → Int32} {x v : Int32} (X : mX Γ p m c cc nL s args own A) (hw : mW Γ.1 vwCl A L M H) (hS : va_S A s.heap H locs) (hr : L i = r) (hi : mget M i = some (.inl (Γ.2.1 0, n, .inl f))) (hin : vp_in x n) (hdg : decode cc pc = .ok (.iastore, 1))
    (kk : ∀ (M1 : mM) (H1 : Heap) (locs1 : List Loc), mUp M i (.inl (Γ.2.1 0, n, .inl (upd f x.toNatClampNeg v))) M1 → mW Γ.1 vwCl A L M1 H1 → va_S A s.heap H1 locs1 → W p l e R s m args below meth c H1 locs1 cells slots Q (F0 m (pc + 1) ls rest)) : W p l e R s m args below meth c H locs cells slots Q (F0 m pc ls (.int v :: .int x :: .ref r :: rest)) := by
  subst hr
  exact m_iast X hw hS hi hin hdg (fun H1 locs1 h1 h2 => kk _ H1 locs1 (mUp.set hi) h1 h2)
theorem c_objInit {index a : Nat} (X : mX Γ p m c cc nL s args own A) (hl : Cond.methodLink own index objectInit ∈ gw) (hsz : ls.size = nL) (hdg : decode cc pc = .ok (.invokespecial index, 3)) (hf : 1 ≤ R.frames) (hlo : (rest.map fun v => v.category).sum + 12 ≤ R.locals)
    (kk : W p l e R s m args below meth c H locs cells slots Q (F0 m (pc + 3) ls rest)) : W p l e R s m args below meth c H locs cells slots Q (F0 m pc ls (.ref a :: rest)) :=
  W.objInit X.1.1 X.1.2.1 X.1.2.2.2.1 (X.1.2.2.2.2 _ hl) (X.1.2.2.2.2 _ im_objectInit) (X.1.2.2.2.2 _ cd_objectInit) rfl (by rw [X.1.2.2.1]; exact hsz) rfl hdg hf (by show 2 * 0 + (rest.map fun v => v.category).sum + 12 ≤ R.locals; omega) kk
variable {y : MethodName} {cy : ByteArray} {ny n index : Nat} {ret : Option FieldType} {rm : Room} {As : List Value} {Qp : (Nat → Prop) → Array Value → State → Outcome → State → Prop}
theorem c_runV {ci : Nat} {fs : List Value} {q : vw_C} (X : mX Γ p m c cc nL s args own A) (hM : mMet Γ l y cy ny ret rm (.ref r :: As) L M Qp) (hr : L i = r) (hy : mVm y cy ny ret n) (hl : Cond.methodLink own index y ∈ gw) (hw : mW Γ.1 vwCl A L M H) (hS : va_S A s.heap H locs) (hi : mget M i = some (.inr (ci, fs))) (hc : vwCl[ci]? = some q) (hq : q.1 = y.cls) (hn : As.length = n) (hsz : ls.size = nL) (hrm : rm.frames + 1 ≤ R.frames ∧ 8 + (ny + 11) + rm.locals ≤ R.locals) (hrest : (rest.map fun v => v.category).sum ≤ 8) (hcs : cells + rm.cells ≤ R.cells ∧ slots + rm.slots ≤ R.slots) (hdg : decode cc pc = .ok (.invokevirtual index, 3)) :
    va_Run p l e R s m args below meth c H locs cells slots rm.cells rm.slots (F0 m pc ls (As.reverse ++ .ref r :: rest)) rest (Qp A (Value.ref r :: As).toArray) A := by
  subst hr
  exact m_runV X hM hy hl hw hS hi hc hq hn hsz hrm hrest hcs hdg
end CI
theorem nm_ne1 {a b c d : Nat} (h : a ≠ c) : nm a b ≠ nm c d := fun e => h (by cases e; rfl)
theorem nm_ne2 {a b c d : Nat} (h : b ≠ d) : nm a b ≠ nm c d := fun e => h (by cases e; rfl)
