/-! THE LAW'S CALLS: two worlds, the class's and the reference's, apart; a callee's world lies in A, a part of the law's A0 -/
theorem mW.own {D : va_G} {cl : List vw_C} {A : Nat → Prop} {L : mI → Nat} {M : mM} {H : Heap} (h : mW D cl A L M H) : mW D cl (fun q => A q ∧ q < H.size) L M H := by
  obtain ⟨ws, h1, h2, h3, h4⟩ := h
  exact ⟨ws, h1, ⟨h2.1, fun k q hk => ⟨h2.2 k q hk, (h1 k q hk).lt⟩⟩, h3, h4⟩
theorem mW.nil {D : va_G} {cl : List vw_C} {A : Nat → Prop} {L : mI → Nat} {H : Heap} : mW D cl A L ([], [fun _ _ => none]) H := by
  have hn : ∀ (i : mI) (e : va_E), mget ([], [fun _ _ => none]) i = some e → False := by
    intro i e h
    rcases i with k | ⟨t, a, b⟩
    · simp [mget] at h
    · cases t with
      | zero => simp [mget] at h
      | succ t => simp [mget] at h
  exact ⟨[], fun k q h => by simp at h, ⟨fun i j p q h => by simp at h, fun k q h => by simp at h⟩, fun i e h => (hn i e h).elim, fun i j x y h => (hn i x h).elim⟩
section LR
variable {p : Program} {l : Launch} {e : Env} {R : Room} {s : State} {m : MethodId} {args : Array Value} {below : List Frame} {meth : Method} {c : Code} {H : Heap} {locs : List Loc} {cells slots : Nat} {Q : State → Prop}
variable {cc : ByteArray} {pc nL : Nat} {ls : Array Slot} {rest : List Value} {Γ : mG} {A A0 : Nat → Prop} {L : mI → Nat} {M : mM} {own : String} {i : mI} {r : Nat}
theorem w_pre {As : List Value} (X : mX Γ p m c cc nL s args own A0) (hw : mW Γ.1 vwCl A L M H) (hS : va_S A0 s.heap H locs) (hA : ∀ q, H.size ≤ q → A q) (hA0 : ∀ q, A q → A0 q) (U : State) (hU : U.heap = H) (hW : s.WarmedH U.vm) : mPre Γ As A H.size L M As.toArray U := by
  refine ⟨rfl, by rw [hU], hA, by rw [hU]; exact hw, X.2.1.warm hW, ?_⟩
  rw [hU]
  exact mSt.moved hW.alike (mSt.narrow (mSt.kept X.2.2.1 hS.2.1) hA0)
theorem w_new {C : String} {T : u_T} {N ci index : Nat} {fs : List Value} {M' : mM} (X : mX Γ p m c cc nL s args own A0) (hw : mW Γ.1 vwCl A L M H) (hA : ∀ q, H.size ≤ q → A q) (i : mI) (hc : vwCl[ci]? = some (C, T, N)) (hin : ∀ w ∈ u_ws C T N, w ∈ gw) (ty : Nat → FieldType) (hty : ∀ k, k < N → parseFieldDescriptor (T k).2.2.1 = some (ty k)) (hcl : Cond.classLink own index C ∈ gw) (hins : Cond.instantiable C N ∈ gw) (hini : Cond.initialized C ∈ gw) (hfs : ∀ j, j < N → defaultValue (ty j) = vp_V fs j) (h1 : mget M' i = some (.inr (ci, fs))) (h2 : ∀ j, j ≠ i → mget M' j = mget M j) (hcells : cells + 1 ≤ R.cells) (hslots : slots + N ≤ R.slots) (hdg : decode cc pc = .ok (.new index, 3))
    (kk : ∀ (q : Nat) (H1 : Heap), mW Γ.1 vwCl A (updI L i q) M' H1 → va_S A H H1 [] → W p l e R s m args below meth c H1 [] (cells + 1) (slots + N) Q (F0 m (pc + 3) ls (.ref q :: rest))) : W p l e R s m args below meth c H [] cells slots Q (F0 m pc ls rest) := by
  obtain ⟨ws, hP, hD, h3, h4⟩ := hw
  have ht := X.1.2.2.2.2
  exact va_new X.1.1 X.1.2.1 ht hin ty hty X.1.2.2.2.1 (ht _ hcl) (ht _ hins) (ht _ hini) X.2.1.1 hP hD va_S.rf hA hc hfs hcells hslots hdg (fun q H1 hP1 hD1 hS1 => kk q H1 (mW.grow h3 h4 hP1 hD1 h1 h2) hS1)
theorem va_S.tr {H0 H1 : Heap} (h : va_S A0 H0 H []) (k : va_S A H H1 []) (hA : ∀ q, A q → A0 q) : va_S A0 H0 H1 [] :=
  ⟨Nat.le_trans h.1 k.1, fun q h1 h2 => (k.2.1 q (Nat.lt_of_lt_of_le h1 h.1) (fun z => h2 (hA q z))).trans (h.2.1 q h1 h2), fun _ z => by cases z⟩
variable {y : MethodName} {cy : ByteArray} {ny n index : Nat} {ret : Option FieldType} {rm : Room} {As : List Value} {Qp : (Nat → Prop) → Array Value → State → Outcome → State → Prop}
theorem w_runV {ci : Nat} {fs : List Value} {q : vw_C} (X : mX Γ p m c cc nL s args own A0) (hM : mMet Γ l y cy ny ret rm (.ref r :: As) L M Qp) (hr : L i = r) (hy : mVm y cy ny ret n) (hl : Cond.methodLink own index y ∈ gw) (hw : mW Γ.1 vwCl A L M H) (hS : va_S A0 s.heap H locs) (hA : ∀ q, H.size ≤ q → A q) (hA0 : ∀ q, A q → A0 q) (hi : mget M i = some (.inr (ci, fs))) (hc : vwCl[ci]? = some q) (hq : q.1 = y.cls) (hn : As.length = n) (hsz : ls.size = nL) (hrm : rm.frames + 1 ≤ R.frames ∧ 8 + (ny + 11) + rm.locals ≤ R.locals) (hrest : (rest.map fun v => v.category).sum ≤ 8) (hcs : cells + rm.cells ≤ R.cells ∧ slots + rm.slots ≤ R.slots) (hdg : decode cc pc = .ok (.invokevirtual index, 3)) :
    va_Run p l e R s m args below meth c H locs cells slots rm.cells rm.slots (F0 m pc ls (As.reverse ++ .ref r :: rest)) rest (Qp A (Value.ref r :: As).toArray) A := by
  subst hr
  obtain ⟨h1, h2, h3, h4, h5, h6, h7⟩ := hy
  have ht := X.1.2.2.2.2
  obtain ⟨ws, hP, hD, w3, w4⟩ := id hw
  obtain ⟨k, hk⟩ := w3 i _ hi
  have hrecv := va_recv X.2.1.1 hP hc hk
  rw [hq] at hrecv
  exact va_runV X.1 (hM A H.size) ⟨callB_of n ht (gw_good h1) rfl rfl rfl (ht _ h4) (ht _ hl) ⟨h5, h6, h7⟩ hrm, ht _ h2, ht _ h3⟩ ⟨mPre.blind, hrecv, fun U hU hW => w_pre X hw hS hA hA0 U hU hW⟩ rfl hn hsz rfl (lv_room hrest) hdg hcs
theorem w_runI {b : Nat} (X : mX Γ p m c cc nL s args own A0) (hM : mMet Γ l y cy ny none rm (.ref b :: As) L M Qp) (hy : mIm y cy ny n) (hl : Cond.methodLink own index y ∈ gw) (hw : mW Γ.1 vwCl A L M H) (hS : va_S A0 s.heap H locs) (hA : ∀ q, H.size ≤ q → A q) (hA0 : ∀ q, A q → A0 q) (hn : As.length = n) (hsz : ls.size = nL) (hrm : rm.frames + 1 ≤ R.frames ∧ 8 + (ny + 11) + rm.locals ≤ R.locals) (hrest : (rest.map fun v => v.category).sum ≤ 8) (hcs : cells + rm.cells ≤ R.cells ∧ slots + rm.slots ≤ R.slots) (hdg : decode cc pc = .ok (.invokespecial index, 3)) :
    va_Run p l e R s m args below meth c H locs cells slots rm.cells rm.slots (F0 m pc ls (As.reverse ++ .ref b :: rest)) rest (Qp A (Value.ref b :: As).toArray) A := by
  obtain ⟨h1, h2, h3, h4, h5, h6, h7⟩ := hy
  have ht := X.1.2.2.2.2
  exact va_runI X.1 (hM A H.size) ⟨callB_of n ht (gw_good h1) rfl rfl rfl (ht _ h3) (ht _ hl) ⟨h5, h6, h7⟩ hrm, h4, ht _ h2⟩ ⟨mPre.blind, fun U hU hW => w_pre X hw hS hA hA0 U hU hW⟩ rfl hn hsz rfl (lv_room hrest) hdg hcs
variable {st0 : List Value} {a : Array Value} {mc ms : Nat}
theorem w_calli {post : Int32 → (mI → Nat) → mM → Prop} (hr : va_Run p l e R s m args below meth c H locs cells slots mc ms (F0 m pc ls st0) rest (mQi Γ post A a) A) (hS : va_S A0 s.heap H locs) (hA0 : ∀ q, A q → A0 q)
    (kk : ∀ (r : Int32) (L1 : mI → Nat) (M1 : mM) (H1 : Heap) (locs1 : List Loc), post r L1 M1 → mW Γ.1 vwCl A L1 M1 H1 → H.size ≤ H1.size → (∀ q : Nat, q < H.size → ¬ A q → H1[q]? = H[q]?) → va_S A0 s.heap H1 locs1 → W p l e R s m args below meth c H1 locs1 (cells + mc) (slots + ms) Q (F0 m (pc + 3) ls (.int r :: rest))) : W p l e R s m args below meth c H locs cells slots Q (F0 m pc ls st0) :=
  va_calli hr hS (fun q _ h => hA0 q h) hA0 (fun r u t H1 locs1 ht _ hp hB hz hk hS1 => kk r u.1 u.2 H1 locs1 hp (by rw [← ht]; exact hB) hz hk hS1)
theorem w_callv {post : (mI → Nat) → mM → Prop} (hr : va_Run p l e R s m args below meth c H locs cells slots mc ms (F0 m pc ls st0) rest (mQv Γ post A a) A) (hS : va_S A0 s.heap H locs) (hA0 : ∀ q, A q → A0 q)
    (kk : ∀ (L1 : mI → Nat) (M1 : mM) (H1 : Heap) (locs1 : List Loc), post L1 M1 → mW Γ.1 vwCl A L1 M1 H1 → H.size ≤ H1.size → (∀ q : Nat, q < H.size → ¬ A q → H1[q]? = H[q]?) → va_S A0 s.heap H1 locs1 → W p l e R s m args below meth c H1 locs1 (cells + mc) (slots + ms) Q (F0 m (pc + 3) ls rest)) : W p l e R s m args below meth c H locs cells slots Q (F0 m pc ls st0) :=
  va_callv hr hS (fun q _ h => hA0 q h) hA0 (fun u t H1 locs1 ht _ hp hB hz hk hS1 => kk u.1 u.2 H1 locs1 hp (by rw [← ht]; exact hB) hz hk hS1)
/-- the law's two worlds -/
def lwW (Γ : mG) (s : State) (LC : mI → Nat) (MC : mM) (LR : mI → Nat) (MR : mM) (H : Heap) : Prop :=
  ∃ AC AR : Nat → Prop, (∀ q, AC q → s.heap.size ≤ q ∧ q < H.size) ∧ (∀ q, AR q → s.heap.size ≤ q ∧ q < H.size) ∧ (∀ q, AC q → ¬ AR q) ∧ mW Γ.1 vwCl AC LC MC H ∧ mW Γ.1 vwCl AR LR MR H ∧ va_S (fun q => s.heap.size ≤ q) s.heap H []
theorem lwW.S {LC LR : mI → Nat} {MC MR : mM} (h : lwW Γ s LC MC LR MR H) : va_S (fun q => s.heap.size ≤ q) s.heap H [] := by
  obtain ⟨AC, AR, c1, c2, c3, hC, hR, hS⟩ := h
  exact hS
/-- a call on the class -/
theorem lw_callC {LC LR : mI → Nat} {MC MR : mM} {post : Int32 → (mI → Nat) → mM → Prop} {ci : Nat} {fs : List Value} {q : vw_C} (X : mX Γ p m c cc nL s args own (fun q => s.heap.size ≤ q)) (hw : lwW Γ s LC MC LR MR H) (hM : mMet Γ l y cy ny (some .int) rm (.ref r :: As) LC MC (mQi Γ post)) (hr : LC i = r) (hy : mVm y cy ny (some .int) n) (hl : Cond.methodLink own index y ∈ gw) (hi : mget MC i = some (.inr (ci, fs))) (hc : vwCl[ci]? = some q) (hq : q.1 = y.cls) (hn : As.length = n) (hsz : ls.size = nL) (hrm : rm.frames + 1 ≤ R.frames ∧ 8 + (ny + 11) + rm.locals ≤ R.locals) (hrest : (rest.map fun v => v.category).sum ≤ 8) (hcs : cells + rm.cells ≤ R.cells ∧ slots + rm.slots ≤ R.slots) (hdg : decode cc pc = .ok (.invokevirtual index, 3))
    (kk : ∀ (v : Int32) (LC1 : mI → Nat) (MC1 : mM) (H1 : Heap), post v LC1 MC1 → lwW Γ s LC1 MC1 LR MR H1 → W p l e R s m args below meth c H1 [] (cells + rm.cells) (slots + rm.slots) Q (F0 m (pc + 3) ls (.int v :: rest))) : W p l e R s m args below meth c H [] cells slots Q (F0 m pc ls (As.reverse ++ .ref r :: rest)) := by
  obtain ⟨AC, AR, c1, c2, c3, hC, hR, hS⟩ := hw
  have hA0 : ∀ q, (AC q ∨ H.size ≤ q) → s.heap.size ≤ q := fun q h => h.elim (fun h => (c1 q h).1) (fun h => Nat.le_trans hS.1 h)
  refine w_calli (w_runV (A := fun q => AC q ∨ H.size ≤ q) X hM hr hy hl (hC.weaken (fun q h => Or.inl h)) hS (fun q h => Or.inr h) hA0 hi hc hq hn hsz hrm hrest hcs hdg) hS hA0 (fun v L1 M1 H1 locs1 hp hw1 hz hk hS1 => ?_)
  refine va_forget hS1.2.2 ?_
  refine kk v L1 M1 H1 hp ⟨fun q => (AC q ∨ H.size ≤ q) ∧ q < H1.size, AR, fun q h => ⟨hA0 q h.1, h.2⟩, fun q h => ⟨(c2 q h).1, Nat.lt_of_lt_of_le (c2 q h).2 hz⟩, fun q h z => ?_, hw1.own, hR.kept (fun q h1 h2 => hk q h1 (fun z => ?_)), ⟨hS1.1, hS1.2.1, fun _ h => by cases h⟩⟩
  · rcases h.1 with h | h
    · exact c3 q h z
    · exact Nat.not_lt.mpr h (c2 q z).2
  · rcases z with z | z
    · exact c3 q z h2
    · exact Nat.not_lt.mpr z h1
/-- a call on the reference -/
theorem lw_callR {LC LR : mI → Nat} {MC MR : mM} {post : Int32 → (mI → Nat) → mM → Prop} {ci : Nat} {fs : List Value} {q : vw_C} (X : mX Γ p m c cc nL s args own (fun q => s.heap.size ≤ q)) (hw : lwW Γ s LC MC LR MR H) (hM : mMet Γ l y cy ny (some .int) rm (.ref r :: As) LR MR (mQi Γ post)) (hr : LR i = r) (hy : mVm y cy ny (some .int) n) (hl : Cond.methodLink own index y ∈ gw) (hi : mget MR i = some (.inr (ci, fs))) (hc : vwCl[ci]? = some q) (hq : q.1 = y.cls) (hn : As.length = n) (hsz : ls.size = nL) (hrm : rm.frames + 1 ≤ R.frames ∧ 8 + (ny + 11) + rm.locals ≤ R.locals) (hrest : (rest.map fun v => v.category).sum ≤ 8) (hcs : cells + rm.cells ≤ R.cells ∧ slots + rm.slots ≤ R.slots) (hdg : decode cc pc = .ok (.invokevirtual index, 3))
    (kk : ∀ (v : Int32) (LR1 : mI → Nat) (MR1 : mM) (H1 : Heap), post v LR1 MR1 → lwW Γ s LC MC LR1 MR1 H1 → W p l e R s m args below meth c H1 [] (cells + rm.cells) (slots + rm.slots) Q (F0 m (pc + 3) ls (.int v :: rest))) : W p l e R s m args below meth c H [] cells slots Q (F0 m pc ls (As.reverse ++ .ref r :: rest)) := by
  obtain ⟨AC, AR, c1, c2, c3, hC, hR, hS⟩ := hw
  refine lw_callC (LC := LR) (LR := LC) (MC := MR) (MR := MC) X ⟨AR, AC, c2, c1, fun q h z => c3 q z h, hR, hC, hS⟩ hM hr hy hl hi hc hq hn hsz hrm hrest hcs hdg (fun v L1 M1 H1 hp h => ?_)
  obtain ⟨AR', AC', d1, d2, d3, hR', hC', hS'⟩ := h
  exact kk v L1 M1 H1 hp ⟨AC', AR', d2, d1, fun q h z => d3 q z h, hC', hR', hS'⟩
end LR
theorem lw_in {i c : Int32} {k j n : Nat} (hi : i = nI k) (hc : c = nI j) (h : k + j < n) (hn : n < 2 ^ 31) : vp_in (i + c) n := vp_inN (nadd hi hc) h hn
theorem lw_in0 {i : Int32} {k n : Nat} (hi : i = nI k) (h : k < n) (hn : n < 2 ^ 31) : vp_in i n := vp_inN hi h hn
/-- what seenDepth holds in a new object -/
theorem RI_new {f : Nat → Int32} (hf : ∀ j, j < 40 → f j = -1) : RInv (xz f) := by
  refine ⟨0, by omega, rfl, fun k hk => rq_of (om := 0) (hn := 0) (hf := fun _ => 0) (hto := fun _ => 0) (hat := fun _ => 0) (hwh := fun _ => 0) (pm := fun _ => 0) ⟨rfl, by omega, rfl, by omega, fun g hg => by omega, fun t _ => ⟨rfl, Nat.zero_le _⟩, fun i _ => Or.inr ⟨0, by omega, rfl⟩⟩, fun k hk hr => absurd rfl hr, fun i hi => Or.inl (hf i hi)⟩
