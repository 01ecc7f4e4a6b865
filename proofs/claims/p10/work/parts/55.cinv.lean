/-! WHAT ALWAYS HOLDS OF THE CLASS'S STATE, and what a step keeps of the METHODS -/
def dOK (d : Int32) : Prop := d = -1 ∨ ∃ n, n ≤ 8 ∧ d = nI n
def CInv (c : CS) : Prop := cN c ≤ 8 ∧ (∀ m, m < cN c → (∃ k, k ≤ 4 ∧ c.1 (m + 2) 0 1 = nI k) ∧ (∃ k, k ≤ 40 ∧ c.1 (m + 2) 0 4 = nI k) ∧ ∃ k, k ≤ 6 ∧ c.1 (m + 2) 0 9 = nI k) ∧ (∀ a b, pOK c a b → dOK (c.1 a b 1)) ∧ (∃ k, k < 8 ∧ c.1 0 10 6 = nI k) ∧ (∃ k, k ≤ 20 ∧ c.1 0 11 4 = nI k) ∧ (∀ i, i ≤ 20 → (c.2.1 0 13 i).toInt ≤ 30) ∧ ∀ i m, cQ c i = some m → m < cN c
theorem pO5 {c : CS} : pOK c 0 5 := Or.inl ⟨rfl, Or.inl rfl⟩
theorem pO8 {c : CS} : pOK c 0 8 := Or.inl ⟨rfl, Or.inr rfl⟩
theorem pO1 {c : CS} {i : Nat} (h : i < 40) : pOK c 1 (2 * i) := Or.inr (Or.inl ⟨rfl, by omega, by omega⟩)
theorem pOF {c : CS} {m i : Nat} (hm : m < cN c) (hi : i < 40) (hf : cF c m i = true) : pOK c (m + 2) (2 * i + 8) := by
  refine Or.inr (Or.inr ⟨by omega, by omega, by omega, by omega, by omega, ?_⟩)
  have e1 : m + 2 - 2 = m := by omega
  have e2 : (2 * i + 8 - 8) / 2 = i := by omega
  rw [e1, e2]
  exact hf
theorem dnat {v : Int32} (h : dOK v) (h0 : ¬ v < 0) : ∃ n, n ≤ 8 ∧ v = nI n := by
  rcases h with h | h
  · subst h; exact absurd (by decide) h0
  · exact h
theorem dOK_n {n : Nat} (h : n ≤ 8) : dOK (nI n) := Or.inr ⟨n, h, rfl⟩
def kp0 (c c1 : CS) : Prop := cN c1 = cN c ∧ cF c1 = cF c ∧ ∀ a b, 2 ≤ a → c1.2.1 a b = c.2.1 a b ∧ c1.2.2.1 a b = c.2.2.1 a b ∧ ∀ k, ¬ (b = 0 ∧ k = 11) → c1.1 a b k = c.1 a b k
theorem kp0.rf {c : CS} : kp0 c c := ⟨rfl, rfl, fun _ _ _ => ⟨rfl, rfl, fun _ _ => rfl⟩⟩
theorem kp0.tr {c c1 c2 : CS} (h : kp0 c c1) (k : kp0 c1 c2) : kp0 c c2 := ⟨k.1.trans h.1, k.2.1.trans h.2.1, fun a b ha => ⟨(k.2.2 a b ha).1.trans (h.2.2 a b ha).1, (k.2.2 a b ha).2.1.trans (h.2.2 a b ha).2.1, fun j hj => ((k.2.2 a b ha).2.2 j hj).trans ((h.2.2 a b ha).2.2 j hj)⟩⟩
theorem kp0.lt {c c1 : CS} {m : Nat} (h : kp0 c c1) (hm : m < cN c) : m < cN c1 := by rw [h.1]; exact hm
theorem kp0.putS {c c1 : CS} {a b k : Nat} {v : Int32} (h : kp0 c c1) (ha : a < 2 ∨ (b = 0 ∧ k = 11)) : kp0 c (tS c1 a b k v) := by
  refine ⟨h.1, h.2.1, fun x y hx => ⟨(h.2.2 x y hx).1, (h.2.2 x y hx).2.1, fun j hj => ?_⟩⟩
  show up3 c1.1 a b (upd (c1.1 a b) k v) x y j = _
  by_cases z : x = a ∧ y = b
  · obtain ⟨rfl, rfl⟩ := z
    rw [up3_self]
    rcases ha with ha | ⟨rfl, rfl⟩
    · omega
    · have : j ≠ 11 := fun e => hj ⟨rfl, e⟩
      simp only [upd, if_neg this]
      exact (h.2.2 _ _ hx).2.2 j hj
  · rw [up3_ne z]
    exact (h.2.2 x y hx).2.2 j hj
theorem kp0.putVs {c c1 : CS} {a b : Nat} {f : Nat → Int32} (h : kp0 c c1) (ha : a < 2) : kp0 c (tVs c1 a b f) := by
  refine ⟨h.1, h.2.1, fun x y hx => ⟨?_, (h.2.2 x y hx).2.1, (h.2.2 x y hx).2.2⟩⟩
  show up3 c1.2.1 a b f x y = _
  rw [up3_ne (by omega)]
  exact (h.2.2 x y hx).1
theorem kp0.putV {c c1 : CS} {a b j : Nat} {v : Int32} (h : kp0 c c1) (ha : a < 2) : kp0 c (tV c1 a b j v) := kp0.putVs h ha
theorem kp0.putJ {c c1 : CS} {a b j : Nat} {v : Int64} (h : kp0 c c1) (ha : a < 2) : kp0 c (tJ c1 a b j v) := by
  refine ⟨h.1, h.2.1, fun x y hx => ⟨(h.2.2 x y hx).1, ?_, (h.2.2 x y hx).2.2⟩⟩
  show up3 c1.2.2.1 a b _ x y = _
  rw [up3_ne (by omega)]
  exact (h.2.2 x y hx).2.1
theorem kp0.putP {c c1 : CS} {a b : Nat} {q : PL} (h : kp0 c c1) (ha : a < 2) : kp0 c (sP c1 a b q) := (h.putVs (b := b + 1) (f := q.1) ha).putS (k := 1) (b := b) (v := nI q.2) (Or.inl ha)
theorem kp0.pok {c c1 : CS} {a b : Nat} (h : kp0 c c1) (hp : pOK c a b) : pOK c1 a b := by
  unfold pOK at hp ⊢
  rw [h.1, h.2.1]
  exact hp
def kp (c c1 : CS) : Prop := cN c1 = cN c ∧ cF c1 = cF c ∧ ∀ a b, (2 ≤ a ∨ (a = 0 ∧ b = 3)) → c1.2.1 a b = c.2.1 a b ∧ c1.2.2.1 a b = c.2.2.1 a b ∧ ∀ k, ¬ ((b = 0 ∧ k = 11) ∨ (a = 0 ∧ k ≠ 5)) → c1.1 a b k = c.1 a b k
theorem kp.o {c c1 : CS} (h : kp c c1) : kp0 c c1 := ⟨h.1, h.2.1, fun a b ha => ⟨(h.2.2 a b (by omega)).1, (h.2.2 a b (by omega)).2.1, fun k hk => (h.2.2 a b (by omega)).2.2 k (by omega)⟩⟩
theorem kp.r5 {c c1 : CS} (h : kp c c1) : c1.1 0 3 5 = c.1 0 3 5 := (h.2.2 0 3 (by omega)).2.2 5 (by omega)
theorem kp0.bk {c c1 : CS} {m : Nat} (h : kp0 c c1) (hm : m < cN c1) : m < cN c := by rw [← h.1]; exact hm
theorem kp.rf {c : CS} : kp c c := ⟨rfl, rfl, fun _ _ _ => ⟨rfl, rfl, fun _ _ => rfl⟩⟩
theorem kp.tr {c c1 c2 : CS} (h : kp c c1) (k : kp c1 c2) : kp c c2 := ⟨k.1.trans h.1, k.2.1.trans h.2.1, fun a b ha => ⟨(k.2.2 a b ha).1.trans (h.2.2 a b ha).1, (k.2.2 a b ha).2.1.trans (h.2.2 a b ha).2.1, fun j hj => ((k.2.2 a b ha).2.2 j hj).trans ((h.2.2 a b ha).2.2 j hj)⟩⟩
theorem kp.lt {c c1 : CS} {m : Nat} (h : kp c c1) (hm : m < cN c) : m < cN c1 := by rw [h.1]; exact hm
theorem kp.putS {c c1 : CS} {a b k : Nat} {v : Int32} (h : kp c c1) (ha : (a < 2 ∧ ¬ (a = 0 ∧ b = 3 ∧ k = 5)) ∨ (b = 0 ∧ k = 11)) : kp c (tS c1 a b k v) := by
  refine ⟨h.1, h.2.1, fun x y hx => ⟨(h.2.2 x y hx).1, (h.2.2 x y hx).2.1, fun j hj => ?_⟩⟩
  show up3 c1.1 a b (upd (c1.1 a b) k v) x y j = _
  by_cases z : x = a ∧ y = b
  · obtain ⟨rfl, rfl⟩ := z
    rw [up3_self]
    have w : j ≠ k := by omega
    simp only [upd, if_neg w]
    exact (h.2.2 _ _ hx).2.2 j hj
  · rw [up3_ne z]
    exact (h.2.2 x y hx).2.2 j hj
theorem kp.putVs {c c1 : CS} {a b : Nat} {f : Nat → Int32} (h : kp c c1) (ha : a < 2 ∧ ¬ (a = 0 ∧ b = 3)) : kp c (tVs c1 a b f) := by
  refine ⟨h.1, h.2.1, fun x y hx => ⟨?_, (h.2.2 x y hx).2.1, (h.2.2 x y hx).2.2⟩⟩
  show up3 c1.2.1 a b f x y = _
  rw [up3_ne (by omega)]
  exact (h.2.2 x y hx).1
theorem kp.putV {c c1 : CS} {a b j : Nat} {v : Int32} (h : kp c c1) (ha : a < 2 ∧ ¬ (a = 0 ∧ b = 3)) : kp c (tV c1 a b j v) := kp.putVs h ha
theorem kp.putJ {c c1 : CS} {a b j : Nat} {v : Int64} (h : kp c c1) (ha : a < 2 ∧ ¬ (a = 0 ∧ b = 3)) : kp c (tJ c1 a b j v) := by
  refine ⟨h.1, h.2.1, fun x y hx => ⟨(h.2.2 x y hx).1, ?_, (h.2.2 x y hx).2.2⟩⟩
  show up3 c1.2.2.1 a b _ x y = _
  rw [up3_ne (by omega)]
  exact (h.2.2 x y hx).2.1
theorem kp.putP {c c1 : CS} {a b : Nat} {q : PL} (h : kp c c1) (ha : a < 2 ∧ ¬ (a = 0 ∧ (b = 2 ∨ b = 3))) : kp c (sP c1 a b q) := (h.putVs (b := b + 1) (f := q.1) (show a < 2 ∧ ¬ (a = 0 ∧ b + 1 = 3) by omega)).putS (k := 1) (b := b) (v := nI q.2) (by omega)
theorem kp.pok {c c1 : CS} {a b : Nat} (h : kp c c1) (hp : pOK c a b) : pOK c1 a b := by
  unfold pOK at hp ⊢
  rw [h.1, h.2.1]
  exact hp
theorem CInv.putS {c : CS} {a b k : Nat} {v : Int32} (h : CInv c) (h1 : ∀ m, m < cN c → a = m + 2 → b = 0 → (k = 1 → ∃ j, j ≤ 4 ∧ v = nI j) ∧ (k = 4 → ∃ j, j ≤ 40 ∧ v = nI j) ∧ (k = 9 → ∃ j, j ≤ 6 ∧ v = nI j)) (h2 : pOK c a b → k = 1 → dOK v) (h3 : a = 0 → b = 10 → k = 6 → ∃ j, j < 8 ∧ v = nI j) (h4 : a = 0 → b = 11 → k = 4 → ∃ j, j ≤ 20 ∧ v = nI j) : CInv (tS c a b k v) := by
  obtain ⟨i1, i2, i3, i4, i5, i6, i7⟩ := h
  have rd : ∀ x y j, (tS c a b k v).1 x y j = if x = a ∧ y = b ∧ j = k then v else c.1 x y j := by
    intro x y j
    show up3 c.1 a b (upd (c.1 a b) k v) x y j = _
    by_cases z : x = a ∧ y = b
    · obtain ⟨rfl, rfl⟩ := z
      rw [up3_self]
      by_cases w : j = k
      · simp [upd, w]
      · simp [upd, w]
    · rw [up3_ne z, if_neg (fun q => z ⟨q.1, q.2.1⟩)]
  refine ⟨i1, fun m hm => ?_, fun x y hp => ?_, ?_, ?_, i6, i7⟩
  · obtain ⟨j1, j2, j3⟩ := i2 m hm
    refine ⟨?_, ?_, ?_⟩
    · rw [rd]
      by_cases z : m + 2 = a ∧ 0 = b ∧ 1 = k
      · rw [if_pos z]; exact (h1 m hm z.1.symm z.2.1.symm).1 z.2.2.symm
      · rw [if_neg z]; exact j1
    · rw [rd]
      by_cases z : m + 2 = a ∧ 0 = b ∧ 4 = k
      · rw [if_pos z]; exact (h1 m hm z.1.symm z.2.1.symm).2.1 z.2.2.symm
      · rw [if_neg z]; exact j2
    · rw [rd]
      by_cases z : m + 2 = a ∧ 0 = b ∧ 9 = k
      · rw [if_pos z]; exact (h1 m hm z.1.symm z.2.1.symm).2.2 z.2.2.symm
      · rw [if_neg z]; exact j3
  · rw [rd]
    by_cases z : x = a ∧ y = b ∧ 1 = k
    · rw [if_pos z]
      obtain ⟨rfl, rfl, rfl⟩ := z
      exact h2 hp rfl
    · rw [if_neg z]; exact i3 x y hp
  · rw [rd]
    by_cases z : 0 = a ∧ 10 = b ∧ 6 = k
    · rw [if_pos z]; exact h3 z.1.symm z.2.1.symm z.2.2.symm
    · rw [if_neg z]; exact i4
  · rw [rd]
    by_cases z : 0 = a ∧ 11 = b ∧ 4 = k
    · rw [if_pos z]; exact h4 z.1.symm z.2.1.symm z.2.2.symm
    · rw [if_neg z]; exact i5
theorem pO_out {c : CS} {b : Nat} (hb : b ≠ 5 ∧ b ≠ 8) : ¬ pOK c 0 b := by
  intro h
  rcases h with ⟨-, h⟩ | ⟨h, -⟩ | ⟨h, -⟩ <;> omega
theorem pO_code {c : CS} {m b : Nat} (hb : b < 8) : ¬ pOK c (m + 2) b := by
  intro h
  rcases h with ⟨h, -⟩ | ⟨h, -⟩ | ⟨h1, h2, h3, -⟩ <;> omega
/-- fields of which nothing is said -/
theorem CInv.free {c : CS} {b k : Nat} {v : Int32} (h : CInv c) (hb : b = 3 ∨ b = 7 ∨ (b = 10 ∧ k ≠ 6)) : CInv (tS c 0 b k v) :=
  h.putS (fun m _ e => by omega) (fun hp => absurd hp (pO_out (by omega))) (fun _ e1 e2 => by omega) (fun _ e1 e2 => by omega)
theorem CInv.lvl {c : CS} {v : Int32} (h : CInv c) (hv : ∃ j, j < 8 ∧ v = nI j) : CInv (tS c 0 10 6 v) :=
  h.putS (fun m _ e => by omega) (fun hp => absurd hp (pO_out (by omega))) (fun _ _ _ => hv) (fun _ e1 e2 => by omega)
theorem CInv.made {c : CS} {v : Int32} (h : CInv c) (hv : ∃ j, j ≤ 20 ∧ v = nI j) : CInv (tS c 0 11 4 v) :=
  h.putS (fun m _ e => by omega) (fun hp => absurd hp (pO_out (by omega))) (fun _ e1 e2 => by omega) (fun _ _ _ => hv)
theorem CInv.right {c : CS} {m : Nat} {v : Int32} (h : CInv c) : CInv (tS c (m + 2) 0 11 v) :=
  h.putS (fun _ _ _ _ => ⟨fun e => by omega, fun e => by omega, fun e => by omega⟩) (fun hp => absurd hp (pO_code (by omega))) (fun e => by omega) (fun e => by omega)
theorem CInv.size {c : CS} {m : Nat} {v : Int32} (h : CInv c) (hv : ∃ j, j ≤ 40 ∧ v = nI j) : CInv (tS c (m + 2) 0 4 v) :=
  h.putS (fun _ _ _ _ => ⟨fun e => by omega, fun _ => hv, fun e => by omega⟩) (fun hp => absurd hp (pO_code (by omega))) (fun e => by omega) (fun e => by omega)
theorem CInv.hmany {c : CS} {m : Nat} {v : Int32} (h : CInv c) (hv : ∃ j, j ≤ 6 ∧ v = nI j) : CInv (tS c (m + 2) 0 9 v) :=
  h.putS (fun _ _ _ _ => ⟨fun e => by omega, fun e => by omega, fun _ => hv⟩) (fun hp => absurd hp (pO_code (by omega))) (fun e => by omega) (fun e => by omega)
theorem CInv.dep {c : CS} {a b : Nat} {v : Int32} (h : CInv c) (hp : pOK c a b) (hv : dOK v) : CInv (tS c a b 1 v) := by
  refine h.putS (fun m _ e1 e2 => ?_) (fun _ _ => hv) (fun _ _ e => by omega) (fun _ _ e => by omega)
  subst e1 e2
  exact absurd hp (pO_code (by omega))
theorem CInv.putVs {c : CS} {a b : Nat} {f : Nat → Int32} (h : CInv c) (hb : ¬ (a = 0 ∧ b = 13)) : CInv (tVs c a b f) := by
  obtain ⟨i1, i2, i3, i4, i5, i6, i7⟩ := h
  refine ⟨i1, i2, i3, i4, i5, fun i hi => ?_, i7⟩
  show (up3 c.2.1 a b f 0 13 i).toInt ≤ 30
  rw [up3_ne (fun z => hb ⟨z.1.symm, z.2.symm⟩)]
  exact i6 i hi
theorem CInv.putV {c : CS} {a b j : Nat} {v : Int32} (h : CInv c) (hb : ¬ (a = 0 ∧ b = 13)) : CInv (tV c a b j v) := CInv.putVs h hb
theorem CInv.len {c : CS} {j : Nat} {v : Int32} (h : CInv c) (hv : v.toInt ≤ 30) : CInv (tV c 0 13 j v) := by
  obtain ⟨i1, i2, i3, i4, i5, i6, i7⟩ := h
  refine ⟨i1, i2, i3, i4, i5, fun i hi => ?_, i7⟩
  show (up3 c.2.1 0 13 (upd (c.2.1 0 13) j v) 0 13 i).toInt ≤ 30
  rw [up3_self]
  by_cases z : i = j
  · simp only [upd, if_pos z]; exact hv
  · simp only [upd, if_neg z]; exact i6 i hi
theorem CInv.putJ {c : CS} {a b j : Nat} {v : Int64} (h : CInv c) : CInv (tJ c a b j v) := h
theorem CInv.putP {c : CS} {a b : Nat} {q : PL} (h : CInv c) (hp : pOK c a b) (hq : q.2 ≤ 8) : CInv (sP c a b q) := by
  have hb : ¬ (a = 0 ∧ b + 1 = 13) := by
    rintro ⟨rfl, hb⟩
    exact pO_out (by omega) hp
  exact CInv.dep (CInv.putVs (b := b + 1) (f := q.1) h hb) hp (dOK_n hq)
def mKv (Γ : mG) (L : mI → Nat) (x : CS) (L1 : mI → Nat) (M1 : mM) : Prop := L1 = L ∧ ∃ c1 : CS, M1 = cM Γ L c1 ∧ CInv c1 ∧ kp x c1
def mKz (Γ : mG) (L : mI → Nat) (x : CS) (r : Int32) (L1 : mI → Nat) (M1 : mM) : Prop := (∃ t : Bool, r = bI t) ∧ mKv Γ L x L1 M1
