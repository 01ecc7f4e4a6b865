/-! kept of the METHODS, and one field more -/
def kf (a0 b0 k0 : Nat) (c c1 : CS) : Prop := kp c c1 ∧ c1.1 a0 b0 k0 = c.1 a0 b0 k0
theorem kf.rf {a0 b0 k0 : Nat} {c : CS} : kf a0 b0 k0 c c := ⟨kp.rf, rfl⟩
theorem kf.tr {a0 b0 k0 : Nat} {c c1 c2 : CS} (h : kf a0 b0 k0 c c1) (k : kf a0 b0 k0 c1 c2) : kf a0 b0 k0 c c2 := ⟨h.1.tr k.1, k.2.trans h.2⟩
theorem kf.lt {a0 b0 k0 : Nat} {c c1 : CS} {m : Nat} (h : kf a0 b0 k0 c c1) (hm : m < cN c) : m < cN c1 := h.1.lt hm
theorem kf.putS {a0 b0 k0 : Nat} {c c1 : CS} {a b k : Nat} {v : Int32} (h : kf a0 b0 k0 c c1) (ha : ((a < 2 ∧ ¬ (a = 0 ∧ b = 3 ∧ k = 5)) ∨ (b = 0 ∧ k = 11)) ∧ ¬ (a0 = a ∧ b0 = b ∧ k0 = k)) : kf a0 b0 k0 c (tS c1 a b k v) := ⟨h.1.putS ha.1, (tS_rd ha.2).trans h.2⟩
theorem kf.putVs {a0 b0 k0 : Nat} {c c1 : CS} {a b : Nat} {f : Nat → Int32} (h : kf a0 b0 k0 c c1) (ha : a < 2 ∧ ¬ (a = 0 ∧ b = 3)) : kf a0 b0 k0 c (tVs c1 a b f) := ⟨h.1.putVs ha, h.2⟩
theorem kf.putV {a0 b0 k0 : Nat} {c c1 : CS} {a b j : Nat} {v : Int32} (h : kf a0 b0 k0 c c1) (ha : a < 2 ∧ ¬ (a = 0 ∧ b = 3)) : kf a0 b0 k0 c (tV c1 a b j v) := ⟨h.1.putV ha, h.2⟩
theorem kf.putJ {a0 b0 k0 : Nat} {c c1 : CS} {a b j : Nat} {v : Int64} (h : kf a0 b0 k0 c c1) (ha : a < 2 ∧ ¬ (a = 0 ∧ b = 3)) : kf a0 b0 k0 c (tJ c1 a b j v) := ⟨h.1.putJ ha, h.2⟩
theorem kf.putP {a0 b0 k0 : Nat} {c c1 : CS} {a b : Nat} {q : PL} (h : kf a0 b0 k0 c c1) (ha : (a < 2 ∧ ¬ (a = 0 ∧ (b = 2 ∨ b = 3))) ∧ ¬ (a0 = a ∧ b0 = b ∧ k0 = 1)) : kf a0 b0 k0 c (sP c1 a b q) := ⟨h.1.putP ha.1, (show (tS (tVs c1 a (b + 1) q.1) a b 1 (nI q.2)).1 a0 b0 k0 = _ from tS_rd ha.2).trans h.2⟩
theorem sP_tVso {x : CS} {a b a' b' : Nat} {q : PL} {f : Nat → Int32} (h : ¬ (a' = a ∧ b' = b + 1)) : tVs (sP x a b q) a' b' f = sP (tVs x a' b' f) a b q := by
  unfold tVs sP
  show (_, up3 (up3 x.2.1 a (b + 1) q.1) a' b' f, _) = (_, up3 (up3 x.2.1 a' b' f) a (b + 1) q.1, _)
  have e : up3 (up3 x.2.1 a (b + 1) q.1) a' b' f = up3 (up3 x.2.1 a' b' f) a (b + 1) q.1 := by
    funext u w
    by_cases h1 : u = a ∧ w = b + 1 <;> by_cases h2 : u = a' ∧ w = b'
    · exact absurd ⟨h2.1.symm.trans h1.1, h2.2.symm.trans h1.2⟩ h
    · simp [up3, h1, h2]
      intro h3 h4
      exact absurd ⟨h3.symm, h4.symm⟩ h
    · simp [up3, h1, h2]
      intro h3 h4
      exact absurd ⟨h3, h4⟩ h
    · simp [up3, h1, h2]
  rw [e]
theorem sP_sPo {x : CS} {a b a' b' : Nat} {q q' : PL} (h : ¬ (a' = a ∧ b' = b)) : sP (sP x a b q) a' b' q' = sP (sP x a' b' q') a b q := by
  show tS (tVs (sP x a b q) a' (b' + 1) q'.1) a' b' 1 (nI q'.2) = sP (tS (tVs x a' (b' + 1) q'.1) a' b' 1 (nI q'.2)) a b q
  rw [sP_tVso (by omega), sP_tSo h]
def mKf (a0 b0 k0 : Nat) (Γ : mG) (L : mI → Nat) (x : CS) (L1 : mI → Nat) (M1 : mM) : Prop := L1 = L ∧ ∃ c1 : CS, M1 = cM Γ L c1 ∧ CInv c1 ∧ kf a0 b0 k0 x c1
