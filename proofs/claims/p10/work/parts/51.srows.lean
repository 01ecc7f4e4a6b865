/-! ROWS OVER THE CLASS'S WORLD -/
section SR
variable {p : Program} {l : Launch} {e : Env} {R : Room} {s : State} {m : MethodId} {args : Array Value} {below : List Frame} {meth : Method} {c : Code} {H : Heap} {locs : List Loc} {cells slots : Nat} {Q : State → Prop}
variable {cc : ByteArray} {pc nL : Nat} {ls : Array Slot} {rest : List Value} {Γ : mG} {A : Nat → Prop} {L : mI → Nat} {x : CS} {a b : Nat} {own : String}
theorem s_get {C ref : String} {T : u_T} {N ci index : Nat} {fs : List Value} {v : Value} (X : mX Γ p m c cc nL s args own A) (hw : mW Γ.1 vwCl A L (cM Γ L x) H) (hi : cel Γ L (cN x) (cF x) (cQ x) a b (x.1 a b) (x.2.1 a b) (x.2.2.1 a b) = some (.inr (ci, fs))) (hc : vwCl[ci]? = some (C, T, N)) (hin : ∀ w ∈ u_ws C T N, w ∈ gw) (k : Nat) (hk : k < N) (hlink : Cond.fieldLink own index ref (T k).2.1 (T k).2.2.1 ∈ gw) (hself : (T k).1 = ref) (hv : fs[k]? = some v) (hdg : decode cc pc = .ok (.getfield index, 3))
    (kk : W p l e R s m args below meth c H locs cells slots Q (F0 m (pc + 3) ls (v :: rest))) : W p l e R s m args below meth c H locs cells slots Q (F0 m pc ls (.ref (L (nm a b)) :: rest)) :=
  m_get X hw (i := nm a b) hi hc hin k hk hlink hself hv hdg kk
theorem s_put {C ref : String} {T : u_T} {N ci index : Nat} {fs : List Value} {v : Int32} {ty : FieldType} (X : mX Γ p m c cc nL s args own A) (hw : mW Γ.1 vwCl A L (cM Γ L x) H) (hS : va_S A s.heap H locs) (k : Nat) (hi : cel Γ L (cN x) (cF x) (cQ x) a b (x.1 a b) (x.2.1 a b) (x.2.2.1 a b) = some (.inr (ci, fs))) (hj : cel Γ L (cN x) (cF x) (cQ x) a b (upd (x.1 a b) k v) (x.2.1 a b) (x.2.2.1 a b) = some (.inr (ci, fs.set k (.int v)))) (hc : vwCl[ci]? = some (C, T, N)) (hin : ∀ w ∈ u_ws C T N, w ∈ gw) (ty0 : Nat → FieldType) (hty : ∀ k, k < N → parseFieldDescriptor (T k).2.2.1 = some (ty0 k)) (hnm : ∀ a, a < N → ∀ b, b < N → a ≠ b → (T a).2.1 ≠ (T b).2.1) (hk : k < N) (hlink : Cond.fieldLink own index ref (T k).2.1 (T k).2.2.1 ∈ gw) (hself : (T k).1 = ref) (hfin : (T k).2.2.2 = false) (hd : parseFieldDescriptor (T k).2.2.1 = some ty) (hn : narrow ty (.int v) = .int v) (hfit : fits ty (.int v) = true) (hl : k < fs.length) (hdg : decode cc pc = .ok (.putfield index, 3))
    (kk : ∀ (H1 : Heap) (locs1 : List Loc), mW Γ.1 vwCl A L (cM Γ L (tS x a b k v)) H1 → va_S A s.heap H1 locs1 → W p l e R s m args below meth c H1 locs1 cells slots Q (F0 m (pc + 3) ls rest)) : W p l e R s m args below meth c H locs cells slots Q (F0 m pc ls (.int v :: .ref (L (nm a b)) :: rest)) :=
  m_put X hw hS (i := nm a b) hi hc hin ty0 hty hnm k hk hlink hself hfin hd hn hfit hl hdg (fun H1 locs1 h1 h2 => kk H1 locs1 (by rw [cU_S hj] at h1; exact h1) h2)
theorem s_iald {n k : Nat} {i : Int32} (X : mX Γ p m c cc nL s args own A) (hw : mW Γ.1 vwCl A L (cM Γ L x) H) (hc : cel Γ L (cN x) (cF x) (cQ x) a b (x.1 a b) (x.2.1 a b) (x.2.2.1 a b) = some (aI Γ n (x.2.1 a b))) (hi : i = nI k) (hk : k < n) (hn : n ≤ 640) (hdg : decode cc pc = .ok (.iaload, 1)) (kk : W p l e R s m args below meth c H locs cells slots Q (F0 m (pc + 1) ls (.int (x.2.1 a b k) :: rest))) : W p l e R s m args below meth c H locs cells slots Q (F0 m pc ls (.int i :: .ref (L (nm a b)) :: rest)) := by
  subst hi
  refine m_iald X hw (i := nm a b) hc (vp_in_nI hk (by omega)) hdg ?_
  rw [nI_clamp (by omega)]
  exact kk
theorem s_iast {n k : Nat} {i v : Int32} (X : mX Γ p m c cc nL s args own A) (hw : mW Γ.1 vwCl A L (cM Γ L x) H) (hS : va_S A s.heap H locs) (hc : ∀ V, cel Γ L (cN x) (cF x) (cQ x) a b (x.1 a b) V (x.2.2.1 a b) = some (aI Γ n V)) (hi : i = nI k) (hk : k < n) (hn : n ≤ 640) (hdg : decode cc pc = .ok (.iastore, 1)) (kk : ∀ (H1 : Heap) (locs1 : List Loc), mW Γ.1 vwCl A L (cM Γ L (tV x a b k v)) H1 → va_S A s.heap H1 locs1 → W p l e R s m args below meth c H1 locs1 cells slots Q (F0 m (pc + 1) ls rest)) : W p l e R s m args below meth c H locs cells slots Q (F0 m pc ls (.int v :: .int i :: .ref (L (nm a b)) :: rest)) := by
  subst hi
  refine m_iast X hw hS (i := nm a b) (hc (x.2.1 a b)) (vp_in_nI hk (by omega)) hdg (fun H1 locs1 h1 h2 => kk H1 locs1 ?_ h2)
  rw [nI_clamp (by omega), cU_V (hc _)] at h1
  exact h1
theorem s_lald {n k : Nat} {i : Int32} (X : mX Γ p m c cc nL s args own A) (hw : mW Γ.1 vwCl A L (cM Γ L x) H) (hc : cel Γ L (cN x) (cF x) (cQ x) a b (x.1 a b) (x.2.1 a b) (x.2.2.1 a b) = some (aJ Γ n (x.2.2.1 a b))) (hi : i = nI k) (hk : k < n) (hn : n ≤ 640) (hdg : decode cc pc = .ok (.laload, 1)) (kk : W p l e R s m args below meth c H locs cells slots Q (F0 m (pc + 1) ls (.long (x.2.2.1 a b k) :: rest))) : W p l e R s m args below meth c H locs cells slots Q (F0 m pc ls (.int i :: .ref (L (nm a b)) :: rest)) := by
  subst hi
  refine m_lald X hw (i := nm a b) hc (vp_in_nI hk (by omega)) hdg ?_
  rw [nI_clamp (by omega)]
  exact kk
theorem s_last {n k : Nat} {i : Int32} {v : Int64} (X : mX Γ p m c cc nL s args own A) (hw : mW Γ.1 vwCl A L (cM Γ L x) H) (hS : va_S A s.heap H locs) (hc : ∀ J, cel Γ L (cN x) (cF x) (cQ x) a b (x.1 a b) (x.2.1 a b) J = some (aJ Γ n J)) (hi : i = nI k) (hk : k < n) (hn : n ≤ 640) (hdg : decode cc pc = .ok (.lastore, 1)) (kk : ∀ (H1 : Heap) (locs1 : List Loc), mW Γ.1 vwCl A L (cM Γ L (tJ x a b k v)) H1 → va_S A s.heap H1 locs1 → W p l e R s m args below meth c H1 locs1 cells slots Q (F0 m (pc + 1) ls rest)) : W p l e R s m args below meth c H locs cells slots Q (F0 m pc ls (.long v :: .int i :: .ref (L (nm a b)) :: rest)) := by
  subst hi
  refine m_last X hw hS (i := nm a b) (hc (x.2.2.1 a b)) (vp_in_nI hk (by omega)) hdg (fun H1 locs1 h1 h2 => kk H1 locs1 ?_ h2)
  rw [nI_clamp (by omega), cU_J (hc _)] at h1
  exact h1
theorem s_aald {n k t : Nat} {C : String} {f : Nat → Option Nat} {i : Int32} {o : Option Nat} (X : mX Γ p m c cc nL s args own A) (hw : mW Γ.1 vwCl A L (cM Γ L x) H) (ht : (mTy Γ)[t]? = some (Γ.2.1 t, .object C)) (hc : cel Γ L (cN x) (cF x) (cQ x) a b (x.1 a b) (x.2.1 a b) (x.2.2.1 a b) = some (aR Γ t n f)) (hi : i = nI k) (hk : k < n) (hn : n ≤ 640) (ho : f k = o) (hdg : decode cc pc = .ok (.aaload, 1)) (kk : W p l e R s m args below meth c H locs cells slots Q (F0 m (pc + 1) ls (va_rf o :: rest))) : W p l e R s m args below meth c H locs cells slots Q (F0 m pc ls (.int i :: .ref (L (nm a b)) :: rest)) := by
  subst hi ho
  refine m_aald X hw (i := nm a b) ht hc (vp_in_nI hk (by omega)) hdg ?_
  rw [nI_clamp (by omega)]
  exact kk
/-- Places of which the depth is only read -/
theorem q_getd {index : Nat} {ref : String} (X : mX Γ p m c cc nL s args own A) (hw : mW Γ.1 vwCl A L (cM Γ L x) H) (hp : pOK x a b) (hlink : Cond.fieldLink own index ref (TX6 1).2.1 (TX6 1).2.2.1 ∈ gw) (hself : (TX6 1).1 = ref) (hdg : decode cc pc = .ok (.getfield index, 3)) (kk : W p l e R s m args below meth c H locs cells slots Q (F0 m (pc + 3) ls (.int (x.1 a b 1) :: rest))) : W p l e R s m args below meth c H locs cells slots Q (F0 m pc ls (.ref (L (nm a b)) :: rest)) :=
  m_get X hw (i := nm a b) (ci := 4) (p_cell hp _ _ _) rfl gX6 1 (by decide) hlink hself rfl hdg kk
theorem q_getk {index : Nat} {ref : String} (X : mX Γ p m c cc nL s args own A) (hw : mW Γ.1 vwCl A L (cM Γ L x) H) (hp : pOK x a b) (hlink : Cond.fieldLink own index ref (TX6 0).2.1 (TX6 0).2.2.1 ∈ gw) (hself : (TX6 0).1 = ref) (hdg : decode cc pc = .ok (.getfield index, 3)) (kk : W p l e R s m args below meth c H locs cells slots Q (F0 m (pc + 3) ls (.ref (L (nm a (b + 1))) :: rest))) : W p l e R s m args below meth c H locs cells slots Q (F0 m pc ls (.ref (L (nm a b)) :: rest)) :=
  m_get X hw (i := nm a b) (ci := 4) (p_cell hp _ _ _) rfl gX6 0 (by decide) hlink hself rfl hdg kk
theorem q_putd {index : Nat} {v : Int32} {ref : String} (X : mX Γ p m c cc nL s args own A) (hw : mW Γ.1 vwCl A L (cM Γ L x) H) (hp : pOK x a b) (hS : va_S A s.heap H locs) (hlink : Cond.fieldLink own index ref (TX6 1).2.1 (TX6 1).2.2.1 ∈ gw) (hself : (TX6 1).1 = ref) (hdg : decode cc pc = .ok (.putfield index, 3)) (kk : ∀ (H1 : Heap) (locs1 : List Loc), mW Γ.1 vwCl A L (cM Γ L (tS x a b 1 v)) H1 → va_S A s.heap H1 locs1 → W p l e R s m args below meth c H1 locs1 cells slots Q (F0 m (pc + 3) ls rest)) : W p l e R s m args below meth c H locs cells slots Q (F0 m pc ls (.int v :: .ref (L (nm a b)) :: rest)) := by
  refine m_put X hw hS (i := nm a b) (ci := 4) (ty := .int) (p_cell hp _ _ _) rfl gX6 tyX6 tyX6_ok nmX6 1 (by decide) hlink hself rfl rfl rfl rfl (show 1 < 2 by decide) hdg (fun H1 locs1 h1 h2 => kk H1 locs1 ?_ h2)
  have e := cU_S (Γ := Γ) (L := L) (c := x) (a := a) (b := b) (k := 1) (v := v) (e := .inr (4, [.ref (L (nm a (b + 1))), .int v])) (by rw [p_cell hp]; simp [upd])
  have h1 : mW Γ.1 vwCl A L (mset (cM Γ L x) (nm a b) (.inr (4, [.ref (L (nm a (b + 1))), .int v]))) H1 := h1
  rw [e] at h1
  exact h1
theorem q_ald {i : Int32} {n : Nat} (X : mX Γ p m c cc nL s args own A) (hw : mW Γ.1 vwCl A L (cM Γ L x) H) (hp : pOK x a b) (hi : i = nI n) (hn : n < 16) (hdg : decode cc pc = .ok (.iaload, 1)) (kk : W p l e R s m args below meth c H locs cells slots Q (F0 m (pc + 1) ls (.int (x.2.1 a (b + 1) n) :: rest))) : W p l e R s m args below meth c H locs cells slots Q (F0 m pc ls (.int i :: .ref (L (nm a (b + 1))) :: rest)) :=
  s_iald X hw (p_cell1 hp _ _ _) hi hn (by decide) hdg kk
theorem q_ast {i v : Int32} {n : Nat} (X : mX Γ p m c cc nL s args own A) (hw : mW Γ.1 vwCl A L (cM Γ L x) H) (hp : pOK x a b) (hS : va_S A s.heap H locs) (hi : i = nI n) (hn : n < 16) (hdg : decode cc pc = .ok (.iastore, 1)) (kk : ∀ (H1 : Heap) (locs1 : List Loc), mW Γ.1 vwCl A L (cM Γ L (tV x a (b + 1) n v)) H1 → va_S A s.heap H1 locs1 → W p l e R s m args below meth c H1 locs1 cells slots Q (F0 m (pc + 1) ls rest)) : W p l e R s m args below meth c H locs cells slots Q (F0 m pc ls (.int v :: .int i :: .ref (L (nm a (b + 1))) :: rest)) :=
  s_iast X hw hS (fun V => p_cell1 hp _ V _) hi hn (by decide) hdg kk
end SR
