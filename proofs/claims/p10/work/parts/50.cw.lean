/-! THE CLASS'S WORLD AS A FUNCTION OF ITS STATE: scalars (by an object's name, then the field), int arrays and long arrays (by their names), how many METHODS, which FRAMES are there, the machine's codes -/
abbrev CS : Type := (Nat → Nat → Nat → Int32) × (Nat → Nat → Nat → Int32) × (Nat → Nat → Nat → Int64) × Nat × (Nat → Nat → Bool) × (Nat → Option Nat)
abbrev cN (c : CS) : Nat := c.2.2.2.1
abbrev cF (c : CS) : Nat → Nat → Bool := c.2.2.2.2.1
abbrev cQ (c : CS) : Nat → Option Nat := c.2.2.2.2.2
abbrev aI (Γ : mG) (n : Nat) (f : Nat → Int32) : va_E := .inl (Γ.2.1 0, n, .inl f)
abbrev aJ (Γ : mG) (n : Nat) (f : Nat → Int64) : va_E := .inl (Γ.2.1 1, n, .inr (.inl f))
abbrev aR (Γ : mG) (t n : Nat) (f : Nat → Option Nat) : va_E := .inl (Γ.2.1 t, n, .inr (.inr (.inr (.inr f))))
abbrev oP (L : mI → Nat) (a b : Nat) (d : Int32) : va_E := .inr (4, [.ref (L (nm a (b + 1))), .int d])
abbrev oC (L : mI → Nat) (m : Nat) (S : Nat → Int32) : va_E := .inr (0, [.int (nI m), .int (S 1), .ref (L (nm (m + 2) 1)), .ref (L (nm (m + 2) 2)), .int (S 4), .ref (L (nm (m + 2) 3)), .ref (L (nm (m + 2) 4)), .ref (L (nm (m + 2) 5)), .ref (L (nm (m + 2) 6)), .int (S 9), .ref (L (nm (m + 2) 7)), .int (S 11)])
def cel0 (Γ : mG) (L : mI → Nat) (n : Nat) (Q : Nat → Option Nat) (b : Nat) (S V : Nat → Int32) (J : Nat → Int64) : Option va_E := match b with
  | 0 => some (.inr (7, [.ref (L (nm 0 1)), .ref (L (nm 0 3)), .ref (L (nm 0 10))]))
  | 1 => some (.inr (5, [.ref (L (nm 0 2)), .int (nI n)]))
  | 2 => some (aR Γ 3 8 (fun i => if i < n then some (L (nm (i + 2) 0)) else none))
  | 3 => some (.inr (2, [.ref (L (nm 0 4)), .ref (L (nm 0 5)), .ref (L (nm 0 7)), .int (S 3), .int (S 4), .int (S 5)]))
  | 4 => some (aR Γ 4 40 (fun i => if i < 40 then some (L (nm 1 (2 * i))) else none))
  | 5 => some (oP L 0 5 (S 1))
  | 6 => some (aI Γ 16 V)
  | 7 => some (.inr (6, [.ref (L (nm 0 8)), .int (S 1), .int (S 2)]))
  | 8 => some (oP L 0 8 (S 1))
  | 9 => some (aI Γ 16 V)
  | 10 => some (.inr (3, [.ref (L (nm 0 11)), .ref (L (nm 0 16)), .ref (L (nm 0 17)), .ref (L (nm 0 18)), .ref (L (nm 0 19)), .ref (L (nm 0 20)), .int (S 6), .int (S 7), .int (S 8), .int (S 9), .int (S 10), .int (S 11), .int (S 12), .int (S 13)]))
  | 11 => some (.inr (1, [.ref (L (nm 0 12)), .ref (L (nm 0 13)), .ref (L (nm 0 14)), .ref (L (nm 0 15)), .int (S 4)]))
  | 12 => some (aI Γ 21 V)
  | 13 => some (aI Γ 21 V)
  | 14 => some (aI Γ 21 V)
  | 15 => some (aI Γ 630 V)
  | 16 => some (aR Γ 3 8 (fun i => (Q i).map (fun m => L (nm (m + 2) 0))))
  | 17 => some (aI Γ 8 V)
  | 18 => some (aI Γ 8 V)
  | 19 => some (aJ Γ 64 J)
  | 20 => some (aJ Γ 64 J)
  | _ + 21 => none
def celC (Γ : mG) (L : mI → Nat) (F : Nat → Nat → Bool) (m b : Nat) (S V : Nat → Int32) (J : Nat → Int64) : Option va_E := match b with
  | 0 => some (oC L m S)
  | 1 => some (aI Γ 40 V)
  | 2 => some (aJ Γ 40 J)
  | 3 => some (aI Γ 6 V)
  | 4 => some (aI Γ 6 V)
  | 5 => some (aI Γ 6 V)
  | 6 => some (aI Γ 6 V)
  | 7 => some (aR Γ 4 40 (fun i => if F m i = true then some (L (nm (m + 2) (2 * i + 8))) else none))
  | b + 8 => if b < 80 ∧ F m (b / 2) = true then (if b % 2 = 0 then some (oP L (m + 2) (b + 8) (S 1)) else some (aI Γ 16 V)) else none
def cel (Γ : mG) (L : mI → Nat) (n : Nat) (F : Nat → Nat → Bool) (Q : Nat → Option Nat) (a b : Nat) (S V : Nat → Int32) (J : Nat → Int64) : Option va_E := match a with
  | 0 => cel0 Γ L n Q b S V J
  | 1 => if b < 80 then (if b % 2 = 0 then some (oP L 1 b (S 1)) else some (aI Γ 16 V)) else none
  | m + 2 => if m < n then celC Γ L F m b S V J else none
def cA (Γ : mG) (L : mI → Nat) (c : CS) : Nat → Nat → Option va_E := fun a b => cel Γ L (cN c) (cF c) (cQ c) a b (c.1 a b) (c.2.1 a b) (c.2.2.1 a b)
def cM (Γ : mG) (L : mI → Nat) (c : CS) : mM := ([], [cA Γ L c])
theorem cM_get (Γ : mG) (L : mI → Nat) (c : CS) (a b : Nat) : mget (cM Γ L c) (nm a b) = cA Γ L c a b := rfl
def up3 {α : Type} (g : Nat → Nat → α) (a b : Nat) (v : α) : Nat → Nat → α := fun x y => if x = a ∧ y = b then v else g x y
theorem up3_self {α : Type} {g : Nat → Nat → α} {a b : Nat} {v : α} : up3 g a b v a b = v := by simp [up3]
theorem up3_ne {α : Type} {g : Nat → Nat → α} {a b x y : Nat} {v : α} (h : ¬ (x = a ∧ y = b)) : up3 g a b v x y = g x y := by simp [up3, h]
def tS (c : CS) (a b k : Nat) (v : Int32) : CS := (up3 c.1 a b (upd (c.1 a b) k v), c.2)
def tVs (c : CS) (a b : Nat) (f : Nat → Int32) : CS := (c.1, up3 c.2.1 a b f, c.2.2)
def tV (c : CS) (a b j : Nat) (v : Int32) : CS := (c.1, up3 c.2.1 a b (upd (c.2.1 a b) j v), c.2.2)
def tJ (c : CS) (a b j : Nat) (v : Int64) : CS := (c.1, c.2.1, up3 c.2.2.1 a b (vp_updL (c.2.2.1 a b) j v), c.2.2.2)
theorem cU_S {Γ : mG} {L : mI → Nat} {c : CS} {a b k : Nat} {v : Int32} {e : va_E} (h : cel Γ L (cN c) (cF c) (cQ c) a b (upd (c.1 a b) k v) (c.2.1 a b) (c.2.2.1 a b) = some e) : mset (cM Γ L c) (nm a b) e = cM Γ L (tS c a b k v) := by
  show (([], [up2 (cA Γ L c) a b e]) : mM) = ([], [cA Γ L (tS c a b k v)])
  have q : up2 (cA Γ L c) a b e = cA Γ L (tS c a b k v) := by
    funext x y
    by_cases z : x = a ∧ y = b
    · obtain ⟨rfl, rfl⟩ := z
      simp only [up2, and_self, if_true, cA, tS, up3_self]
      exact h.symm
    · simp only [up2, if_neg z, cA, tS, up3_ne z]
  rw [q]
theorem cU_Vs {Γ : mG} {L : mI → Nat} {c : CS} {a b : Nat} {f : Nat → Int32} {e : va_E} (h : cel Γ L (cN c) (cF c) (cQ c) a b (c.1 a b) f (c.2.2.1 a b) = some e) : mset (cM Γ L c) (nm a b) e = cM Γ L (tVs c a b f) := by
  show (([], [up2 (cA Γ L c) a b e]) : mM) = ([], [cA Γ L (tVs c a b f)])
  have q : up2 (cA Γ L c) a b e = cA Γ L (tVs c a b f) := by
    funext x y
    by_cases z : x = a ∧ y = b
    · obtain ⟨rfl, rfl⟩ := z
      simp only [up2, and_self, if_true, cA, tVs, up3_self]
      exact h.symm
    · simp only [up2, if_neg z, cA, tVs, up3_ne z]
  rw [q]
theorem cU_V {Γ : mG} {L : mI → Nat} {c : CS} {a b j : Nat} {v : Int32} {e : va_E} (h : cel Γ L (cN c) (cF c) (cQ c) a b (c.1 a b) (upd (c.2.1 a b) j v) (c.2.2.1 a b) = some e) : mset (cM Γ L c) (nm a b) e = cM Γ L (tV c a b j v) := cU_Vs h
theorem cU_J {Γ : mG} {L : mI → Nat} {c : CS} {a b j : Nat} {v : Int64} {e : va_E} (h : cel Γ L (cN c) (cF c) (cQ c) a b (c.1 a b) (c.2.1 a b) (vp_updL (c.2.2.1 a b) j v) = some e) : mset (cM Γ L c) (nm a b) e = cM Γ L (tJ c a b j v) := by
  show (([], [up2 (cA Γ L c) a b e]) : mM) = ([], [cA Γ L (tJ c a b j v)])
  have q : up2 (cA Γ L c) a b e = cA Γ L (tJ c a b j v) := by
    funext x y
    by_cases z : x = a ∧ y = b
    · obtain ⟨rfl, rfl⟩ := z
      simp only [up2, and_self, if_true, cA, tJ, up3_self]
      exact h.symm
    · simp only [up2, if_neg z, cA, tJ, up3_ne z]
  rw [q]
/-- where Places lie -/
def pOK (c : CS) (a b : Nat) : Prop := (a = 0 ∧ (b = 5 ∨ b = 8)) ∨ (a = 1 ∧ b < 80 ∧ b % 2 = 0) ∨ (2 ≤ a ∧ a < cN c + 2 ∧ 8 ≤ b ∧ b < 88 ∧ b % 2 = 0 ∧ cF c (a - 2) ((b - 8) / 2) = true)
theorem p_cell {Γ : mG} {L : mI → Nat} {c : CS} {a b : Nat} (h : pOK c a b) (S V : Nat → Int32) (J : Nat → Int64) : cel Γ L (cN c) (cF c) (cQ c) a b S V J = some (oP L a b (S 1)) := by
  rcases h with ⟨rfl, rfl | rfl⟩ | ⟨rfl, h1, h2⟩ | ⟨h1, h2, h3, h4, h5, h6⟩
  · rfl
  · rfl
  · show (if b < 80 then (if b % 2 = 0 then some (oP L 1 b (S 1)) else some (aI Γ 16 V)) else none) = _
    rw [if_pos h1, if_pos h2]
  · obtain ⟨m, rfl⟩ : ∃ m, a = m + 2 := ⟨a - 2, by omega⟩
    obtain ⟨k, rfl⟩ : ∃ k, b = k + 8 := ⟨b - 8, by omega⟩
    have h7 : cF c m (k / 2) = true := h6
    show (if m < cN c then (if k < 80 ∧ cF c m (k / 2) = true then (if k % 2 = 0 then some (oP L (m + 2) (k + 8) (S 1)) else some (aI Γ 16 V)) else none) else none) = _
    rw [if_pos (by omega), if_pos ⟨by omega, h7⟩, if_pos (by omega)]
theorem p_cell1 {Γ : mG} {L : mI → Nat} {c : CS} {a b : Nat} (h : pOK c a b) (S V : Nat → Int32) (J : Nat → Int64) : cel Γ L (cN c) (cF c) (cQ c) a (b + 1) S V J = some (aI Γ 16 V) := by
  rcases h with ⟨rfl, rfl | rfl⟩ | ⟨rfl, h1, h2⟩ | ⟨h1, h2, h3, h4, h5, h6⟩
  · rfl
  · rfl
  · show (if b + 1 < 80 then (if (b + 1) % 2 = 0 then some (oP L 1 (b + 1) (S 1)) else some (aI Γ 16 V)) else none) = _
    rw [if_pos (by omega), if_neg (by omega)]
  · obtain ⟨m, rfl⟩ : ∃ m, a = m + 2 := ⟨a - 2, by omega⟩
    obtain ⟨k, rfl⟩ : ∃ k, b = k + 8 := ⟨b - 8, by omega⟩
    have h7 : cF c m ((k + 1) / 2) = true := by
      have e : (k + 1) / 2 = k / 2 := by omega
      rw [e]
      exact h6
    show (if m < cN c then (if k + 1 < 80 ∧ cF c m ((k + 1) / 2) = true then (if (k + 1) % 2 = 0 then some (oP L (m + 2) (k + 9) (S 1)) else some (aI Γ 16 V)) else none) else none) = _
    rw [if_pos (by omega), if_pos ⟨by omega, h7⟩, if_neg (by omega)]
theorem c_cell {Γ : mG} {L : mI → Nat} {c : CS} {m : Nat} (h : m < cN c) (b : Nat) (S V : Nat → Int32) (J : Nat → Int64) : cel Γ L (cN c) (cF c) (cQ c) (m + 2) b S V J = celC Γ L (cF c) m b S V J := by
  show (if m < cN c then celC Γ L (cF c) m b S V J else none) = _
  rw [if_pos h]
/-- Places as a pair: the KINDS, the depth -/
def sP (c : CS) (a b : Nat) (q : PL) : CS := (up3 c.1 a b (upd (c.1 a b) 1 (nI q.2)), up3 c.2.1 a (b + 1) q.1, c.2.2)
theorem up3_up3 {α : Type} (g : Nat → Nat → α) (a b : Nat) (v w : α) : up3 (up3 g a b v) a b w = up3 g a b w := by
  funext x y
  by_cases h : x = a ∧ y = b
  · simp [up3, h]
  · simp [up3, h]
theorem sP_tS (c : CS) (a b : Nat) (q : PL) (d : Nat) : tS (sP c a b q) a b 1 (nI d) = sP c a b (q.1, d) := by
  unfold tS sP
  show (up3 (up3 c.1 a b (upd (c.1 a b) 1 (nI q.2))) a b (upd (up3 c.1 a b (upd (c.1 a b) 1 (nI q.2)) a b) 1 (nI d)), _) = _
  rw [up3_up3, up3_self, upd_upd]
theorem sP_tV (c : CS) (a b : Nat) (q : PL) (n : Nat) (v : Int32) : tV (sP c a b q) a (b + 1) n v = sP c a b (upd q.1 n v, q.2) := by
  unfold tV sP
  show (_, up3 (up3 c.2.1 a (b + 1) q.1) a (b + 1) (upd (up3 c.2.1 a (b + 1) q.1 a (b + 1)) n v), _) = _
  rw [up3_up3, up3_self]
theorem sP_tVs (c : CS) (a b : Nat) (q : PL) (f : Nat → Int32) : tVs (sP c a b q) a (b + 1) f = sP c a b (f, q.2) := by
  unfold tVs sP
  show (_, up3 (up3 c.2.1 a (b + 1) q.1) a (b + 1) f, _) = _
  rw [up3_up3]
theorem sP_sP (c : CS) (a b : Nat) (q q' : PL) : sP (sP c a b q) a b q' = sP c a b q' := by
  unfold sP
  show (up3 (up3 c.1 a b (upd (c.1 a b) 1 (nI q.2))) a b (upd (up3 c.1 a b (upd (c.1 a b) 1 (nI q.2)) a b) 1 (nI q'.2)), up3 (up3 c.2.1 a (b + 1) q.1) a (b + 1) q'.1, c.2.2) = _
  rw [up3_up3, up3_up3, up3_self, upd_upd]
theorem upd_id (f : Nat → Int32) (k : Nat) : upd f k (f k) = f := by
  funext j
  by_cases h : j = k
  · subst h; simp [upd]
  · simp [upd, h]
theorem up3_id {α : Type} (g : Nat → Nat → α) (a b : Nat) : up3 g a b (g a b) = g := by
  funext x y
  by_cases h : x = a ∧ y = b
  · obtain ⟨rfl, rfl⟩ := h; simp [up3]
  · simp [up3, h]
theorem sP_self {c : CS} {a b : Nat} {q : PL} (h1 : c.1 a b 1 = nI q.2) (h2 : c.2.1 a (b + 1) = q.1) : sP c a b q = c := by
  unfold sP
  rw [← h1, ← h2, upd_id, up3_id, up3_id]
theorem sP_ok {c : CS} {a b x y : Nat} {q : PL} : pOK (sP c a b q) x y ↔ pOK c x y := Iff.rfl
section PR
variable {p : Program} {l : Launch} {e : Env} {R : Room} {s : State} {m : MethodId} {args : Array Value} {below : List Frame} {meth : Method} {c : Code} {H : Heap} {locs : List Loc} {cells slots : Nat} {Q : State → Prop}
variable {cc : ByteArray} {pc nL : Nat} {ls : Array Slot} {rest : List Value} {Γ : mG} {A : Nat → Prop} {L : mI → Nat} {x : CS} {h : Nat → Int32} {d a b : Nat} {own : String}
theorem p_getd {index : Nat} {ref : String} (X : mX Γ p m c cc nL s args own A) (hw : mW Γ.1 vwCl A L (cM Γ L (sP x a b (h, d))) H) (hp : pOK x a b) (hlink : Cond.fieldLink own index ref (TX6 1).2.1 (TX6 1).2.2.1 ∈ gw) (hself : (TX6 1).1 = ref) (hdg : decode cc pc = .ok (.getfield index, 3)) (kk : W p l e R s m args below meth c H locs cells slots Q (F0 m (pc + 3) ls (.int (nI d) :: rest))) : W p l e R s m args below meth c H locs cells slots Q (F0 m pc ls (.ref (L (nm a b)) :: rest)) := by
  refine m_get X hw (i := nm a b) (ci := 4) (p_cell (c := sP x a b (h, d)) hp _ _ _) rfl gX6 1 (by decide) hlink hself ?_ hdg kk
  show some (Value.int (up3 x.1 a b (upd (x.1 a b) 1 (nI d)) a b 1)) = _
  rw [up3_self]
  simp [upd]
theorem p_putd {index n : Nat} {v : Int32} {ref : String} (X : mX Γ p m c cc nL s args own A) (hw : mW Γ.1 vwCl A L (cM Γ L (sP x a b (h, d))) H) (hp : pOK x a b) (hS : va_S A s.heap H locs) (hv : v = nI n) (hlink : Cond.fieldLink own index ref (TX6 1).2.1 (TX6 1).2.2.1 ∈ gw) (hself : (TX6 1).1 = ref) (hdg : decode cc pc = .ok (.putfield index, 3)) (kk : ∀ (H1 : Heap) (locs1 : List Loc), mW Γ.1 vwCl A L (cM Γ L (sP x a b (h, n))) H1 → va_S A s.heap H1 locs1 → W p l e R s m args below meth c H1 locs1 cells slots Q (F0 m (pc + 3) ls rest)) : W p l e R s m args below meth c H locs cells slots Q (F0 m pc ls (.int v :: .ref (L (nm a b)) :: rest)) := by
  subst hv
  refine m_put X hw hS (i := nm a b) (ci := 4) (ty := .int) (p_cell (c := sP x a b (h, d)) hp _ _ _) rfl gX6 tyX6 tyX6_ok nmX6 1 (by decide) hlink hself rfl rfl rfl rfl (show 1 < 2 by decide) hdg (fun H1 locs1 h1 h2 => kk H1 locs1 ?_ h2)
  have e := cU_S (Γ := Γ) (L := L) (c := sP x a b (h, d)) (a := a) (b := b) (k := 1) (v := nI n) (e := .inr (4, [.ref (L (nm a (b + 1))), .int (nI n)])) (by rw [p_cell (c := sP x a b (h, d)) hp]; simp [upd])
  have h1 : mW Γ.1 vwCl A L (mset (cM Γ L (sP x a b (h, d))) (nm a b) (.inr (4, [.ref (L (nm a (b + 1))), .int (nI n)]))) H1 := h1
  rw [e, sP_tS] at h1
  exact h1
theorem p_getk {index : Nat} {ref : String} (X : mX Γ p m c cc nL s args own A) (hw : mW Γ.1 vwCl A L (cM Γ L (sP x a b (h, d))) H) (hp : pOK x a b) (hlink : Cond.fieldLink own index ref (TX6 0).2.1 (TX6 0).2.2.1 ∈ gw) (hself : (TX6 0).1 = ref) (hdg : decode cc pc = .ok (.getfield index, 3)) (kk : W p l e R s m args below meth c H locs cells slots Q (F0 m (pc + 3) ls (.ref (L (nm a (b + 1))) :: rest))) : W p l e R s m args below meth c H locs cells slots Q (F0 m pc ls (.ref (L (nm a b)) :: rest)) := by
  exact m_get X hw (i := nm a b) (ci := 4) (p_cell (c := sP x a b (h, d)) hp _ _ _) rfl gX6 0 (by decide) hlink hself rfl hdg kk
theorem p_arr (Γ : mG) (L : mI → Nat) {x : CS} {a b : Nat} {q : PL} (hp : pOK x a b) : mget (cM Γ L (sP x a b q)) (nm a (b + 1)) = some (aI Γ 16 q.1) := by
  rw [cM_get]
  show cel Γ L _ _ _ a (b + 1) _ (up3 x.2.1 a (b + 1) q.1 a (b + 1)) _ = _
  rw [up3_self]
  exact p_cell1 (c := sP x a b q) hp _ _ _
theorem p_ald {i : Int32} {n : Nat} (X : mX Γ p m c cc nL s args own A) (hw : mW Γ.1 vwCl A L (cM Γ L (sP x a b (h, d))) H) (hp : pOK x a b) (hi : i = nI n) (hn : n < 16) (hdg : decode cc pc = .ok (.iaload, 1)) (kk : W p l e R s m args below meth c H locs cells slots Q (F0 m (pc + 1) ls (.int (h n) :: rest))) : W p l e R s m args below meth c H locs cells slots Q (F0 m pc ls (.int i :: .ref (L (nm a (b + 1))) :: rest)) := by
  subst hi
  refine m_iald X hw (i := nm a (b + 1)) (p_arr Γ L hp) (vp_in_nI hn (by decide)) hdg ?_
  rw [nI_clamp (by omega)]
  exact kk
theorem p_ast {i v : Int32} {n : Nat} (X : mX Γ p m c cc nL s args own A) (hw : mW Γ.1 vwCl A L (cM Γ L (sP x a b (h, d))) H) (hp : pOK x a b) (hS : va_S A s.heap H locs) (hi : i = nI n) (hn : n < 16) (hdg : decode cc pc = .ok (.iastore, 1)) (kk : ∀ (H1 : Heap) (locs1 : List Loc), mW Γ.1 vwCl A L (cM Γ L (sP x a b (upd h n v, d))) H1 → va_S A s.heap H1 locs1 → W p l e R s m args below meth c H1 locs1 cells slots Q (F0 m (pc + 1) ls rest)) : W p l e R s m args below meth c H locs cells slots Q (F0 m pc ls (.int v :: .int i :: .ref (L (nm a (b + 1))) :: rest)) := by
  subst hi
  refine m_iast X hw hS (i := nm a (b + 1)) (p_arr Γ L hp) (vp_in_nI hn (by decide)) hdg (fun H1 locs1 h1 h2 => kk H1 locs1 ?_ h2)
  rw [nI_clamp (by omega), cU_Vs (f := upd h n v) (p_cell1 (c := sP x a b (h, d)) hp _ _ _), sP_tVs] at h1
  exact h1
end PR
/-- the answer of a method that does something with Places -/
def mPl (Γ : mG) (L : mI → Nat) (x : CS) (a b : Nat) (o : Option PL) (r : Int32) (L1 : mI → Nat) (M1 : mM) : Prop := ∃ q : PL, q.2 ≤ 8 ∧ L1 = L ∧ M1 = cM Γ L (sP x a b q) ∧ match o with
  | some z => r = 1 ∧ q = z
  | none => r = 0
