/-! THE HAND: what stands at an instruction: 16 places (8 locals, then the stack) and the depth -/
abbrev PL : Type := (Nat → Int32) × Nat
def sH (x : RS) (q : PL) : RS := (upd x.1 15 (nI q.2), va_up x.2.1 14 q.1, x.2.2)
theorem upd_upd (f : Nat → Int32) (k : Nat) (a b : Int32) : upd (upd f k a) k b = upd f k b := by
  funext j
  by_cases h : j = k
  · subst h; simp [upd]
  · simp [upd, h]
theorem va_upup {α : Type} (f : Nat → α) (k : Nat) (a b : α) : va_up (va_up f k a) k b = va_up f k b := by
  funext j
  by_cases h : j = k
  · subst h; simp [va_up]
  · simp [va_up, h]
theorem sH_sS (x : RS) (q : PL) (d : Nat) : sS (sH x q) 15 (nI d) = sH x (q.1, d) := by
  unfold sS sH
  rw [upd_upd]
theorem sH_sA (x : RS) (q : PL) (n : Nat) (v : Int32) : sA (sH x q) 14 n v = sH x (upd q.1 n v, q.2) := by
  unfold sA sH
  have e : va_up x.2.1 14 q.1 14 = q.1 := by simp [va_up]
  show (_, va_up (va_up x.2.1 14 q.1) 14 (upd (va_up x.2.1 14 q.1 14) n v), _) = _
  rw [e, va_upup]
theorem sH_sH (x : RS) (q q' : PL) : sH (sH x q) q' = sH x q' := by
  unfold sH
  show (upd (upd x.1 15 (nI q.2)) 15 (nI q'.2), va_up (va_up x.2.1 14 q.1) 14 q'.1, x.2.2) = _
  rw [upd_upd, va_upup]
/-- a hand that is one already -/
theorem sH_self {x : RS} {q : PL} (h1 : x.1 15 = nI q.2) (h2 : x.2.1 14 = q.1) : sH x q = x := by
  unfold sH
  have e1 : upd x.1 15 (nI q.2) = x.1 := by
    funext j
    by_cases h : j = 15
    · subst h; simp [upd, h1]
    · simp [upd, h]
  have e2 : va_up x.2.1 14 q.1 = x.2.1 := by
    funext j
    by_cases h : j = 14
    · subst h; simp [va_up, h2]
    · simp [va_up, h]
  rw [e1, e2]
section HR
variable {p : Program} {l : Launch} {e : Env} {R : Room} {s : State} {m : MethodId} {args : Array Value} {below : List Frame} {meth : Method} {c : Code} {H : Heap} {locs : List Loc} {cells slots : Nat} {Q : State → Prop}
variable {cc : ByteArray} {pc nL : Nat} {ls : Array Slot} {rest : List Value} {Γ : mG} {A : Nat → Prop} {L : mI → Nat} {x : RS} {h : Nat → Int32} {d : Nat}
theorem h_get15 (X : mX Γ p m c cc nL s args RX10 A) (hw : mW Γ.1 vwCl A L (rM Γ L (sH x (h, d))) H) (hdg : decode cc pc = .ok (.getfield 145, 3)) (kk : W p l e R s m args below meth c H locs cells slots Q (F0 m (pc + 3) ls (.int (nI d) :: rest))) : W p l e R s m args below meth c H locs cells slots Q (F0 m pc ls (.ref (L (.inl 0)) :: rest)) := r_get15 X hw hdg kk
theorem h_put15 {v : Int32} {n : Nat} (X : mX Γ p m c cc nL s args RX10 A) (hw : mW Γ.1 vwCl A L (rM Γ L (sH x (h, d))) H) (hS : va_S A s.heap H locs) (hv : v = nI n) (hdg : decode cc pc = .ok (.putfield 145, 3)) (kk : ∀ (H1 : Heap) (locs1 : List Loc), mW Γ.1 vwCl A L (rM Γ L (sH x (h, n))) H1 → va_S A s.heap H1 locs1 → W p l e R s m args below meth c H1 locs1 cells slots Q (F0 m (pc + 3) ls rest)) : W p l e R s m args below meth c H locs cells slots Q (F0 m pc ls (.int v :: .ref (L (.inl 0)) :: rest)) := by
  subst hv
  exact r_put15 X hw hS hdg (fun H1 locs1 h1 h2 => kk H1 locs1 (by rw [sH_sS] at h1; exact h1) h2)
theorem h_ald14 {i : Int32} {n : Nat} (X : mX Γ p m c cc nL s args RX10 A) (hw : mW Γ.1 vwCl A L (rM Γ L (sH x (h, d))) H) (hi : i = nI n) (hn : n < 16) (hdg : decode cc pc = .ok (.iaload, 1)) (kk : W p l e R s m args below meth c H locs cells slots Q (F0 m (pc + 1) ls (.int (h n) :: rest))) : W p l e R s m args below meth c H locs cells slots Q (F0 m pc ls (.int i :: .ref (L (.inr (0, 14, 0))) :: rest)) := r_ald14N X hw hi hn hdg kk
theorem h_ast14 {i v : Int32} {n : Nat} (X : mX Γ p m c cc nL s args RX10 A) (hw : mW Γ.1 vwCl A L (rM Γ L (sH x (h, d))) H) (hS : va_S A s.heap H locs) (hi : i = nI n) (hn : n < 16) (hdg : decode cc pc = .ok (.iastore, 1)) (kk : ∀ (H1 : Heap) (locs1 : List Loc), mW Γ.1 vwCl A L (rM Γ L (sH x (upd h n v, d))) H1 → va_S A s.heap H1 locs1 → W p l e R s m args below meth c H1 locs1 cells slots Q (F0 m (pc + 1) ls rest)) : W p l e R s m args below meth c H locs cells slots Q (F0 m pc ls (.int v :: .int i :: .ref (L (.inr (0, 14, 0))) :: rest)) :=
  r_ast14N X hw hS hi hn hdg (fun H1 locs1 h1 h2 => kk H1 locs1 (by rw [sH_sA] at h1; exact h1) h2)
end HR
/-! what an instruction does with a hand, or none: it is WRONG -/
def p_push (q : PL) (k : Int32) : Option PL := if q.2 = 8 then none else some (upd q.1 (8 + q.2) k, q.2 + 1)
def p_pop (q : PL) (k : Int32) : Option PL := if q.2 = 0 then none else if r_goes (q.1 (7 + q.2)) k = true then some (q.1, q.2 - 1) else none
def p_pushL (q : PL) : Option PL := (p_push q 2).bind (fun z => p_push z 3)
def p_popL (q : PL) : Option PL := if 2 ≤ q.2 ∧ q.1 (7 + q.2) = 3 ∧ q.1 (6 + q.2) = 2 then some (q.1, q.2 - 2) else none
def p_one (q : PL) (n : Nat) : Bool := decide (n < q.2) && r_one (q.1 (7 + q.2 - n))
def p_local1 (h : Nat → Int32) (l : Nat) : Nat → Int32 := if h l = 3 ∧ 0 < l ∧ h (l - 1) = 2 then upd h (l - 1) 0 else h
def p_local2 (h : Nat → Int32) (l : Nat) : Nat → Int32 := if h l = 2 ∧ l < 7 ∧ h (l + 1) = 3 then upd h (l + 1) 0 else h
def p_local (h : Nat → Int32) (l : Nat) (k : Int32) : Nat → Int32 := upd (p_local2 (p_local1 h l) l) l k
/-- the answer of a method that does something with the hand -/
def mHand (Γ : mG) (L : mI → Nat) (x : RS) (o : Option PL) (r : Int32) (L1 : mI → Nat) (M1 : mM) : Prop := ∃ q : PL, L1 = L ∧ M1 = rM Γ L (sH x q) ∧ match o with
  | some z => r = 1 ∧ q = z
  | none => r = 0
