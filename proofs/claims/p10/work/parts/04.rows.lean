/-! ROWS OVER THE MEMORY BY NAMES: what is fixed, contracts, calls, instructions -/
/-- the classes' numbers and slots; the array classes' numbers; where the static tables lie -/
abbrev mG : Type := va_G × (Nat → ClassId) × (Nat → Nat)
def mTy (Γ : mG) : List (ClassId × FieldType) := [(Γ.2.1 0, .int), (Γ.2.1 1, .long), (Γ.2.1 2, .boolean), (Γ.2.1 3, .object RX0), (Γ.2.1 4, .object RX6)]
def mUN (j : Nat) : Int32 := ([1, 3, 7, 75, 215, 163, 65, 129] : List Int32).getD j 0
def mAB (j : Nat) : Int32 := ([0, 0, 1, 1, 2, 1, 0, 0] : List Int32).getD j 0
def mSt (Γ : mG) (A : Nat → Prop) (U : State) (H : Heap) : Prop :=
  va_Z RX3 "UNDER" "[I" (.ref (Γ.2.2 0)) A U H ∧ va_T .int (Γ.2.2 0) 8 (fun j => .int (mUN j)) A U H ∧ va_Z RX3 "ABOVE" "[I" (.ref (Γ.2.2 1)) A U H ∧ va_T .int (Γ.2.2 1) 8 (fun j => .int (mAB j)) A U H
theorem mSt.moved {Γ : mG} {A : Nat → Prop} {u U : State} {H : Heap} (hvm : u.vm.Alike U.vm) (h : mSt Γ A u H) : mSt Γ A U H := ⟨va_Z.moved hvm h.1, va_T.moved hvm h.2.1, va_Z.moved hvm h.2.2.1, va_T.moved hvm h.2.2.2⟩
theorem mSt.kept {Γ : mG} {A : Nat → Prop} {U : State} {H H1 : Heap} (h : mSt Γ A U H) (hq : ∀ a : Nat, a < H.size → ¬ A a → H1[a]? = H[a]?) : mSt Γ A U H1 := ⟨va_Z.kept h.1 hq, va_T.kept h.2.1 hq, va_Z.kept h.2.2.1 hq, va_T.kept h.2.2.2 hq⟩
theorem mSt.narrow {Γ : mG} {A B : Nat → Prop} {U : State} {H : Heap} (h : mSt Γ A U H) (hAB : ∀ q, B q → A q) : mSt Γ B U H := ⟨va_Z.narrow h.1 hAB, va_T.narrow h.2.1 hAB, va_Z.narrow h.2.2.1 hAB, va_T.narrow h.2.2.2 hAB⟩
def mK (Γ : mG) (U : State) : Prop := va_K Γ.1 vwCl (mTy Γ) U ∧ (∀ q ∈ mNest, va_Nw (.methodLinkNest q.1 q.2.1 q.2.2.1 q.2.2.2) U) ∧ va_AO RX0 U ∧ va_AO RX6 U
theorem mK.warm {Γ : mG} {s U : State} (hW : s.WarmedH U.vm) (h : mK Γ s) : mK Γ U := ⟨va_K.moved hW.alike h.1, fun q hq => va_Nw.warmM hW (h.2.1 q hq), va_AO.moved hW.alike h.2.2.1, va_AO.moved hW.alike h.2.2.2⟩
theorem mK.same {Γ : mG} {u U : State} (hv : u.vm = U.vm) (h : mK Γ u) : mK Γ U := by
  have ha : u.vm.Alike U.vm := by rw [hv]; exact Vm.Alike.refl _
  exact ⟨va_K.moved ha h.1, fun q hq => va_Nw.same rfl hv (h.2.1 q hq), va_AO.moved ha h.2.2.1, va_AO.moved ha h.2.2.2⟩
/-- a method's start -/
def mPre (Γ : mG) (As : List Value) (A : Nat → Prop) (sz : Nat) (L : mI → Nat) (M : mM) : Array Value → State → Prop :=
  va_Pc As (fun U => U.heap.size = sz ∧ (∀ q : Nat, sz ≤ q → A q) ∧ mW Γ.1 vwCl A L M U.heap ∧ mK Γ U ∧ mSt Γ A U U.heap)
theorem mPre.blind {Γ : mG} {As : List Value} {A : Nat → Prop} {sz : Nat} {L : mI → Nat} {M : mM} : FrameBlind (mPre Γ As A sz L M) := by
  intro a U g mk h
  obtain ⟨h0, h1, h2, h3, h4, h5⟩ := h
  exact ⟨h0, h1, h2, h3, mK.same (u := U) (U := U.calling g mk a) rfl h4, mSt.moved (u := U) (U := U.calling g mk a) (Vm.Alike.refl U.vm) h5⟩
abbrev mS : Type := (mI → Nat) × mM
def mB (Γ : mG) (A : Nat → Prop) (u : mS) (t : State) : Prop := mW Γ.1 vwCl A u.1 u.2 t.heap
/-- a contract: any world that holds L, M, any A that holds its addresses and the new ones -/
def mMet (Γ : mG) (l : Launch) (y : MethodName) (cc : ByteArray) (nL : Nat) (ret : Option FieldType) (rm : Room) (As : List Value) (L : mI → Nat) (M : mM) (Q : (Nat → Prop) → Array Value → State → Outcome → State → Prop) : Prop :=
  ∀ (A : Nat → Prop) (sz : Nat), Met l y (.code y cc nL ret :: gw) rm (mPre Γ As A sz L M) (Q A) rm.cells rm.slots A
def mQi (Γ : mG) (post : Int32 → (mI → Nat) → mM → Prop) (A : Nat → Prop) : Array Value → State → Outcome → State → Prop := va_Qi (fun r (u : mS) => post r u.1 u.2) (mB Γ A) A
def mQl (Γ : mG) (post : Int64 → (mI → Nat) → mM → Prop) (A : Nat → Prop) : Array Value → State → Outcome → State → Prop := va_Ql (fun r (u : mS) => post r u.1 u.2) (mB Γ A) A
def mQq (Γ : mG) (post : Option Nat → (mI → Nat) → mM → Prop) (A : Nat → Prop) : Array Value → State → Outcome → State → Prop := va_Qq (fun r (u : mS) => post r u.1 u.2) (mB Γ A) A
def mQv (Γ : mG) (post : (mI → Nat) → mM → Prop) (A : Nat → Prop) : Array Value → State → Outcome → State → Prop := va_Qv (fun (u : mS) => post u.1 u.2) (mB Γ A) A
def mX (Γ : mG) (p : Program) (m : MethodId) (c : Code) (cc : ByteArray) (nL : Nat) (s : State) (args : Array Value) (own : String) (A : Nat → Prop) : Prop :=
  CallFix p m c cc nL s args gw own ∧ mK Γ s ∧ mSt Γ A s s.heap ∧ ∀ q : Nat, s.heap.size ≤ q → A q
def bI (b : Bool) : Int32 := if b then 1 else 0
section MR
variable {p : Program} {l : Launch} {e : Env} {R : Room} {s : State} {m : MethodId} {args : Array Value} {below : List Frame} {meth : Method} {c : Code} {H : Heap} {locs : List Loc} {cells slots : Nat} {Q : State → Prop}
variable {cc : ByteArray} {pc nL : Nat} {ls : Array Slot} {rest : List Value} {Γ : mG} {A : Nat → Prop} {L : mI → Nat} {M : mM} {own : String}
theorem m_start {y : MethodName} {ret : Option FieldType} {rm : Room} {As : List Value} {Qp : (Nat → Prop) → Array Value → State → Outcome → State → Prop} (hy : plainName y.cls = true) (hlen : (lg_sl As).length ≤ nL)
    (body : ∀ (p : Program) (e : Env) (s : State) (m : MethodId) (args : Array Value) (below : List Frame) (meth : Method) (c : Code) (A : Nat → Prop) (ls : Array Slot), mX Γ p m c cc nL s args y.cls A → meth.sig.returnType = ret → meth.locks = false → meth.name = y.name → mW Γ.1 vwCl A L M s.heap → va_S A s.heap s.heap [] → lv_has ls nL (lv_args 0 As) →
      W p l e rm s m args below meth c s.heap [] 0 0 (MQ below (Qp A) args s rm.cells rm.slots A) (F0 m 0 ls [])) : mMet Γ l y cc nL ret rm As L M Qp := by
  intro A sz
  refine Met.ofW (cc := cc) (maxL := nL) (ret := ret) hy rfl ?_
  intro p e s m args below meth c s₁ B hml hv
  obtain ⟨rfl, hsz, hA, hw, hK, hst⟩ := hv
  have hts := atoms_spec (ws := .code y cc nL ret :: gw) B.pre
  have hl := lv_entry As (n := nL) hlen
  rw [lg_entry_eq]
  generalize (lg_sl As ++ List.replicate (nL - (lg_sl As).length) Slot.unset).toArray = ls at hl ⊢
  subst hsz
  exact body p e s m _ below meth c A ls ⟨⟨B.exec, B.bytes, hml, findClass_of_methodNamed B.named, fun w hw => hts w (List.mem_cons_of_mem _ hw)⟩, hK, hst, hA⟩ B.returns B.notSynchronized (name_of_methodNamed B.named B.method).1 hw va_S.rf hl
theorem m_iret {mc ms : Nat} {v : Int32} {post : Int32 → (mI → Nat) → mM → Prop} (X : mX Γ p m c cc nL s args own A) (hr : meth.sig.returnType = some .int) (hlk : meth.locks = false) (hw : mW Γ.1 vwCl A L M H) (hS : va_S A s.heap H locs) (hc : cells ≤ mc) (hs : slots ≤ ms) (hp : post v L M) (hdg : decode cc pc = .ok (.ireturn, 1)) :
    W p l e R s m args below meth c H locs cells slots (MQ below (mQi Γ post A) args s mc ms A) (F0 m pc ls [.int v]) := by
  refine W.widen (k := mc) (n := ms) hc hs ?_
  exact W.iret X.1.1 X.1.2.1 hr (fun t ht hW => ⟨⟨v, (L, M), rfl, hp, by show mW _ _ _ _ _ _; rw [ht]; exact hw⟩, hS.F ht⟩) hS.2.2 hdg
theorem m_zret {mc ms : Nat} {b : Bool} {v : Int32} {post : Int32 → (mI → Nat) → mM → Prop} (X : mX Γ p m c cc nL s args own A) (hr : meth.sig.returnType = some .boolean) (hlk : meth.locks = false) (hw : mW Γ.1 vwCl A L M H) (hS : va_S A s.heap H locs) (hc : cells ≤ mc) (hs : slots ≤ ms) (hv : v = bI b) (hp : post (bI b) L M) (hdg : decode cc pc = .ok (.ireturn, 1)) :
    W p l e R s m args below meth c H locs cells slots (MQ below (mQi Γ post A) args s mc ms A) (F0 m pc ls [.int v]) := by
  subst hv
  refine W.widen (k := mc) (n := ms) hc hs ?_
  exact W.zret X.1.1 X.1.2.1 hr (by cases b <;> rfl) (fun t ht hW => ⟨⟨bI b, (L, M), rfl, hp, by show mW _ _ _ _ _ _; rw [ht]; exact hw⟩, hS.F ht⟩) hS.2.2 hdg
theorem m_lret {mc ms : Nat} {v : Int64} {post : Int64 → (mI → Nat) → mM → Prop} (X : mX Γ p m c cc nL s args own A) (hr : meth.sig.returnType = some .long) (hlk : meth.locks = false) (hw : mW Γ.1 vwCl A L M H) (hS : va_S A s.heap H locs) (hc : cells ≤ mc) (hs : slots ≤ ms) (hp : post v L M) (hdg : decode cc pc = .ok (.lreturn, 1)) :
    W p l e R s m args below meth c H locs cells slots (MQ below (mQl Γ post A) args s mc ms A) (F0 m pc ls [.long v]) := by
  refine W.widen (k := mc) (n := ms) hc hs ?_
  exact W.lret X.1.1 X.1.2.1 hr (fun t ht hW => ⟨⟨v, (L, M), rfl, hp, by show mW _ _ _ _ _ _; rw [ht]; exact hw⟩, hS.F ht⟩) hS.2.2 hdg
theorem m_vret {mc ms : Nat} {post : (mI → Nat) → mM → Prop} (X : mX Γ p m c cc nL s args own A) (hr : meth.sig.returnType = none) (hlk : meth.locks = false) (hw : mW Γ.1 vwCl A L M H) (hS : va_S A s.heap H locs) (hc : cells ≤ mc) (hs : slots ≤ ms) (hp : post L M) (hdg : decode cc pc = .ok (.return_, 1)) :
    W p l e R s m args below meth c H locs cells slots (MQ below (mQv Γ post A) args s mc ms A) (F0 m pc ls []) := by
  refine W.widen (k := mc) (n := ms) hc hs ?_
  exact W.vret X.1.1 X.1.2.1 hr (fun t ht hW => ⟨⟨(L, M), rfl, hp, by show mW _ _ _ _ _ _; rw [ht]; exact hw⟩, hS.F ht⟩) hS.2.2 hdg
theorem m_qret {mc ms : Nat} {v : Option Nat} {C : String} {post : Option Nat → (mI → Nat) → mM → Prop} (X : mX Γ p m c cc nL s args own A) (hr : meth.sig.returnType = some (.object C)) (hlk : meth.locks = false) (hw : mW Γ.1 vwCl A L M H) (hS : va_S A s.heap H locs) (hc : cells ≤ mc) (hs : slots ≤ ms) (hp : post v L M) (hdg : decode cc pc = .ok (.areturn, 1)) :
    W p l e R s m args below meth c H locs cells slots (MQ below (mQq Γ post A) args s mc ms A) (F0 m pc ls [va_rf v]) := by
  refine W.widen (k := mc) (n := ms) hc hs ?_
  exact W.aret X.1.1 X.1.2.1 hr (Or.inl ⟨_, rfl⟩) (va_rf_or v) (fun t ht hW => ⟨⟨v, (L, M), rfl, hp, by show mW _ _ _ _ _ _; rw [ht]; exact hw⟩, hS.F ht⟩) hS.2.2 hdg
/-- what a caller may give to its callee -/
theorem m_pre {y : MethodName} {As : List Value} (X : mX Γ p m c cc nL s args own A) (hw : mW Γ.1 vwCl A L M H) (hS : va_S A s.heap H locs) (U : State) (hU : U.heap = H) (hW : s.WarmedH U.vm) : mPre Γ As A H.size L M As.toArray U := by
  refine ⟨rfl, by rw [hU], fun q hq => X.2.2.2 q (Nat.le_trans hS.1 hq), by rw [hU]; exact hw, X.2.1.warm hW, ?_⟩
  rw [hU]
  exact mSt.moved hW.alike (mSt.kept X.2.2.1 hS.2.1)
/-- a callee's own words: static -/
def mSm (y : MethodName) (cc : ByteArray) (nL : Nat) (ret : Option FieldType) (n : Nat) : Prop := Cond.code y cc nL ret ∈ gw ∧ Cond.static y ∈ gw ∧ Cond.initialized y.cls ∈ gw ∧ y.cls ≠ "java/lang/invoke/MethodHandle" ∧ y.cls ≠ "java/lang/invoke/VarHandle" ∧ (parseMethodDescriptor y.desc).map (fun d => d.parameters.length) = some n
/-- a callee's own words: of an object -/
def mVm (y : MethodName) (cc : ByteArray) (nL : Nat) (ret : Option FieldType) (n : Nat) : Prop := Cond.code y cc nL ret ∈ gw ∧ Cond.instanceMethod y ∈ gw ∧ Cond.selects y.cls y y ∈ gw ∧ Cond.initialized y.cls ∈ gw ∧ y.cls ≠ "java/lang/invoke/MethodHandle" ∧ y.cls ≠ "java/lang/invoke/VarHandle" ∧ (parseMethodDescriptor y.desc).map (fun d => d.parameters.length) = some n
/-- a constructor's own words -/
def mIm (y : MethodName) (cc : ByteArray) (nL : Nat) (n : Nat) : Prop := Cond.code y cc nL none ∈ gw ∧ Cond.instanceMethod y ∈ gw ∧ Cond.initialized y.cls ∈ gw ∧ y.name = "<init>" ∧ y.cls ≠ "java/lang/invoke/MethodHandle" ∧ y.cls ≠ "java/lang/invoke/VarHandle" ∧ (parseMethodDescriptor y.desc).map (fun d => d.parameters.length) = some n
variable {y : MethodName} {cy : ByteArray} {ny n index : Nat} {ret : Option FieldType} {rm : Room} {As : List Value} {Qp : (Nat → Prop) → Array Value → State → Outcome → State → Prop}
theorem m_runS (X : mX Γ p m c cc nL s args own A) (hM : mMet Γ l y cy ny ret rm As L M Qp) (hy : mSm y cy ny ret n) (hl : Cond.methodLink own index y ∈ gw) (hw : mW Γ.1 vwCl A L M H) (hS : va_S A s.heap H locs) (hn : As.length = n) (hsz : ls.size = nL) (hrm : rm.frames + 1 ≤ R.frames ∧ 8 + (ny + 11) + rm.locals ≤ R.locals) (hrest : (rest.map fun v => v.category).sum ≤ 8) (hcs : cells + rm.cells ≤ R.cells ∧ slots + rm.slots ≤ R.slots) (hdg : decode cc pc = .ok (.invokestatic index, 3)) :
    va_Run p l e R s m args below meth c H locs cells slots rm.cells rm.slots (F0 m pc ls (As.reverse ++ rest)) rest (Qp A As.toArray) A := by
  obtain ⟨h1, h2, h3, h4, h5, h6⟩ := hy
  have ht := X.1.2.2.2.2
  exact va_runS X.1 (hM A H.size) ⟨callB_of n ht (gw_good h1) rfl rfl rfl (ht _ h3) (ht _ hl) ⟨h4, h5, h6⟩ hrm, ht _ h2⟩ ⟨mPre.blind, fun U hU hW => m_pre (y := y) X hw hS U hU hW⟩ rfl hn hsz rfl (lv_room hrest) hdg hcs
theorem m_runV {i : mI} {ci : Nat} {fs : List Value} {q : vw_C} (X : mX Γ p m c cc nL s args own A) (hM : mMet Γ l y cy ny ret rm (.ref (L i) :: As) L M Qp) (hy : mVm y cy ny ret n) (hl : Cond.methodLink own index y ∈ gw) (hw : mW Γ.1 vwCl A L M H) (hS : va_S A s.heap H locs) (hi : mget M i = some (.inr (ci, fs))) (hc : vwCl[ci]? = some q) (hq : q.1 = y.cls) (hn : As.length = n) (hsz : ls.size = nL) (hrm : rm.frames + 1 ≤ R.frames ∧ 8 + (ny + 11) + rm.locals ≤ R.locals) (hrest : (rest.map fun v => v.category).sum ≤ 8) (hcs : cells + rm.cells ≤ R.cells ∧ slots + rm.slots ≤ R.slots) (hdg : decode cc pc = .ok (.invokevirtual index, 3)) :
    va_Run p l e R s m args below meth c H locs cells slots rm.cells rm.slots (F0 m pc ls (As.reverse ++ .ref (L i) :: rest)) rest (Qp A (Value.ref (L i) :: As).toArray) A := by
  obtain ⟨h1, h2, h3, h4, h5, h6, h7⟩ := hy
  have ht := X.1.2.2.2.2
  obtain ⟨ws, hP, hD, w3, w4⟩ := id hw
  obtain ⟨k, hk⟩ := w3 i _ hi
  have hrecv := va_recv X.2.1.1 hP hc hk
  rw [hq] at hrecv
  exact va_runV X.1 (hM A H.size) ⟨callB_of n ht (gw_good h1) rfl rfl rfl (ht _ h4) (ht _ hl) ⟨h5, h6, h7⟩ hrm, ht _ h2, ht _ h3⟩ ⟨mPre.blind, hrecv, fun U hU hW => m_pre (y := y) X hw hS U hU hW⟩ rfl hn hsz rfl (lv_room hrest) hdg hcs
theorem m_runI {b : Nat} (X : mX Γ p m c cc nL s args own A) (hM : mMet Γ l y cy ny none rm (.ref b :: As) L M Qp) (hy : mIm y cy ny n) (hl : Cond.methodLink own index y ∈ gw) (hw : mW Γ.1 vwCl A L M H) (hS : va_S A s.heap H locs) (hn : As.length = n) (hsz : ls.size = nL) (hrm : rm.frames + 1 ≤ R.frames ∧ 8 + (ny + 11) + rm.locals ≤ R.locals) (hrest : (rest.map fun v => v.category).sum ≤ 8) (hcs : cells + rm.cells ≤ R.cells ∧ slots + rm.slots ≤ R.slots) (hdg : decode cc pc = .ok (.invokespecial index, 3)) :
    va_Run p l e R s m args below meth c H locs cells slots rm.cells rm.slots (F0 m pc ls (As.reverse ++ .ref b :: rest)) rest (Qp A (Value.ref b :: As).toArray) A := by
  obtain ⟨h1, h2, h3, h4, h5, h6, h7⟩ := hy
  have ht := X.1.2.2.2.2
  exact va_runI X.1 (hM A H.size) ⟨callB_of n ht (gw_good h1) rfl rfl rfl (ht _ h3) (ht _ hl) ⟨h5, h6, h7⟩ hrm, h4, ht _ h2⟩ ⟨mPre.blind, fun U hU hW => m_pre (y := y) X hw hS U hU hW⟩ rfl hn hsz rfl (lv_room hrest) hdg hcs
theorem m_runIN {b : Nat} {host : String} (X : mX Γ p m c cc nL s args own A) (hM : mMet Γ l y cy ny none rm (.ref b :: As) L M Qp) (hy : mIm y cy ny n) (hl : (own, index, y, host) ∈ mNest) (hw : mW Γ.1 vwCl A L M H) (hS : va_S A s.heap H locs) (hn : As.length = n) (hsz : ls.size = nL) (hrm : rm.frames + 1 ≤ R.frames ∧ 8 + (ny + 11) + rm.locals ≤ R.locals) (hrest : (rest.map fun v => v.category).sum ≤ 8) (hcs : cells + rm.cells ≤ R.cells ∧ slots + rm.slots ≤ R.slots) (hdg : decode cc pc = .ok (.invokespecial index, 3)) :
    va_Run p l e R s m args below meth c H locs cells slots rm.cells rm.slots (F0 m pc ls (As.reverse ++ .ref b :: rest)) rest (Qp A (Value.ref b :: As).toArray) A := by
  obtain ⟨h1, h2, h3, h4, h5, h6, h7⟩ := hy
  have ht := X.1.2.2.2.2
  exact va_runIN X.1 (hM A H.size) ⟨va_cnB n ht (gw_good h1) rfl rfl rfl (X.2.1.2.1 _ hl) (ht _ h3) ⟨h5, h6, h7⟩ hrm, h4, ht _ h2⟩ ⟨mPre.blind, fun U hU hW => m_pre (y := y) X hw hS U hU hW⟩ rfl hn hsz rfl (lv_room hrest) hdg hcs
variable {st0 : List Value} {a : Array Value} {mc ms : Nat}
theorem m_calli {post : Int32 → (mI → Nat) → mM → Prop} (hr : va_Run p l e R s m args below meth c H locs cells slots mc ms (F0 m pc ls st0) rest (mQi Γ post A a) A) (hS : va_S A s.heap H locs)
    (kk : ∀ (r : Int32) (L1 : mI → Nat) (M1 : mM) (H1 : Heap) (locs1 : List Loc), post r L1 M1 → mW Γ.1 vwCl A L1 M1 H1 → va_S A s.heap H1 locs1 → W p l e R s m args below meth c H1 locs1 (cells + mc) (slots + ms) Q (F0 m (pc + 3) ls (.int r :: rest))) : W p l e R s m args below meth c H locs cells slots Q (F0 m pc ls st0) :=
  va_calli hr hS (fun _ _ h => h) (fun _ h => h) (fun r u t H1 locs1 ht _ hp hB _ _ hS1 => kk r u.1 u.2 H1 locs1 hp (by rw [← ht]; exact hB) hS1)
theorem m_calll {post : Int64 → (mI → Nat) → mM → Prop} (hr : va_Run p l e R s m args below meth c H locs cells slots mc ms (F0 m pc ls st0) rest (mQl Γ post A a) A) (hS : va_S A s.heap H locs)
    (kk : ∀ (r : Int64) (L1 : mI → Nat) (M1 : mM) (H1 : Heap) (locs1 : List Loc), post r L1 M1 → mW Γ.1 vwCl A L1 M1 H1 → va_S A s.heap H1 locs1 → W p l e R s m args below meth c H1 locs1 (cells + mc) (slots + ms) Q (F0 m (pc + 3) ls (.long r :: rest))) : W p l e R s m args below meth c H locs cells slots Q (F0 m pc ls st0) :=
  va_calll hr hS (fun _ _ h => h) (fun _ h => h) (fun r u t H1 locs1 ht _ hp hB _ _ hS1 => kk r u.1 u.2 H1 locs1 hp (by rw [← ht]; exact hB) hS1)
theorem m_callq {post : Option Nat → (mI → Nat) → mM → Prop} (hr : va_Run p l e R s m args below meth c H locs cells slots mc ms (F0 m pc ls st0) rest (mQq Γ post A a) A) (hS : va_S A s.heap H locs)
    (kk : ∀ (r : Option Nat) (L1 : mI → Nat) (M1 : mM) (H1 : Heap) (locs1 : List Loc), post r L1 M1 → mW Γ.1 vwCl A L1 M1 H1 → va_S A s.heap H1 locs1 → W p l e R s m args below meth c H1 locs1 (cells + mc) (slots + ms) Q (F0 m (pc + 3) ls (va_rf r :: rest))) : W p l e R s m args below meth c H locs cells slots Q (F0 m pc ls st0) :=
  va_callq hr hS (fun _ _ h => h) (fun _ h => h) (fun r u t H1 locs1 ht _ hp hB _ _ hS1 => kk r u.1 u.2 H1 locs1 hp (by rw [← ht]; exact hB) hS1)
theorem m_callv {post : (mI → Nat) → mM → Prop} (hr : va_Run p l e R s m args below meth c H locs cells slots mc ms (F0 m pc ls st0) rest (mQv Γ post A a) A) (hS : va_S A s.heap H locs)
    (kk : ∀ (L1 : mI → Nat) (M1 : mM) (H1 : Heap) (locs1 : List Loc), post L1 M1 → mW Γ.1 vwCl A L1 M1 H1 → va_S A s.heap H1 locs1 → W p l e R s m args below meth c H1 locs1 (cells + mc) (slots + ms) Q (F0 m (pc + 3) ls rest)) : W p l e R s m args below meth c H locs cells slots Q (F0 m pc ls st0) :=
  va_callv hr hS (fun _ _ h => h) (fun _ h => h) (fun u t H1 locs1 ht _ hp hB _ _ hS1 => kk u.1 u.2 H1 locs1 hp (by rw [← ht]; exact hB) hS1)
end MR
