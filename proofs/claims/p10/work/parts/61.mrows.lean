/-! the machine's codes; what a step of the machine keeps -/
def tQ (c : CS) (i m : Nat) : CS := (c.1, c.2.1, c.2.2.1, c.2.2.2.1, c.2.2.2.2.1, va_up c.2.2.2.2.2 i (some m))
theorem cel0_Q {Γ : mG} {L : mI → Nat} {n b : Nat} {Q Q' : Nat → Option Nat} {S V : Nat → Int32} {J : Nat → Int64} (h : b ≠ 16) : cel0 Γ L n Q b S V J = cel0 Γ L n Q' b S V J := by
  match b, h with
  | 0, _ => rfl
  | 1, _ => rfl
  | 2, _ => rfl
  | 3, _ => rfl
  | 4, _ => rfl
  | 5, _ => rfl
  | 6, _ => rfl
  | 7, _ => rfl
  | 8, _ => rfl
  | 9, _ => rfl
  | 10, _ => rfl
  | 11, _ => rfl
  | 12, _ => rfl
  | 13, _ => rfl
  | 14, _ => rfl
  | 15, _ => rfl
  | 16, h => exact absurd rfl h
  | 17, _ => rfl
  | 18, _ => rfl
  | 19, _ => rfl
  | 20, _ => rfl
  | _ + 21, _ => rfl
theorem cU_Q {Γ : mG} {L : mI → Nat} {c : CS} {k m : Nat} : mset (cM Γ L c) (nm 0 16) (aR Γ 3 8 (va_up (fun i => (cQ c i).map (fun m => L (nm (m + 2) 0))) k (some (L (nm (m + 2) 0))))) = cM Γ L (tQ c k m) := by
  show (([], [up2 (cA Γ L c) 0 16 _]) : mM) = ([], [cA Γ L (tQ c k m)])
  have q : up2 (cA Γ L c) 0 16 (aR Γ 3 8 (va_up (fun i => (cQ c i).map (fun m => L (nm (m + 2) 0))) k (some (L (nm (m + 2) 0))))) = cA Γ L (tQ c k m) := by
    funext x y
    by_cases z : x = 0 ∧ y = 16
    · obtain ⟨rfl, rfl⟩ := z
      simp only [up2, and_self, if_true]
      show some (aR Γ 3 8 _) = some (aR Γ 3 8 (fun i => (va_up c.2.2.2.2.2 k (some m) i).map (fun m => L (nm (m + 2) 0))))
      congr 1
      congr 1
      congr 1
      congr 1
      congr 1
      congr 1
      congr 1
      congr 1
      funext i
      by_cases h : i = k
      · simp [va_up, h]
      · simp [va_up, h]
    · simp only [up2, if_neg z]
      match x, z with
      | 0, z => exact cel0_Q (fun e => z ⟨rfl, e⟩)
      | 1, _ => rfl
      | _ + 2, _ => rfl
  rw [q]
section QR
variable {p : Program} {l : Launch} {e : Env} {R : Room} {s : State} {m : MethodId} {args : Array Value} {below : List Frame} {meth : Method} {c : Code} {H : Heap} {locs : List Loc} {cells slots : Nat} {Q : State → Prop}
variable {cc : ByteArray} {pc nL : Nat} {ls : Array Slot} {rest : List Value} {Γ : mG} {A : Nat → Prop} {L : mI → Nat} {x : CS} {own : String}
theorem s_qast {k j : Nat} {i : Int32} (X : mX Γ p m c cc nL s args own A) (hw : mW Γ.1 vwCl A L (cM Γ L x) H) (hS : va_S A s.heap H locs) (hj : j < cN x) (hi : i = nI k) (hk : k < 8) (hdg : decode cc pc = .ok (.aastore, 1)) (kk : ∀ (H1 : Heap) (locs1 : List Loc), mW Γ.1 vwCl A L (cM Γ L (tQ x k j)) H1 → va_S A s.heap H1 locs1 → W p l e R s m args below meth c H1 locs1 cells slots Q (F0 m (pc + 1) ls rest)) : W p l e R s m args below meth c H locs cells slots Q (F0 m pc ls (.ref (L (nm (j + 2) 0)) :: .int i :: .ref (L (nm 0 16)) :: rest)) := by
  subst hi
  refine m_aast (i := nm 0 16) (j := nm (j + 2) 0) (n := 8) (t := 3) (ci := 0) (q := (RX0, TX0, 12)) (f := fun i => (cQ x i).map (fun m => L (nm (m + 2) 0))) X hw hS rfl rfl (c_cell hj 0 _ _ _) rfl (vp_in_nI hk (by decide)) hdg (fun H1 locs1 h1 h2 => kk H1 locs1 ?_ h2)
  rw [nI_clamp (by omega)] at h1
  rw [← cU_Q]
  exact h1
end QR
theorem CInv.putQ {c : CS} {i m : Nat} (h : CInv c) (hm : m < cN c) : CInv (tQ c i m) := by
  obtain ⟨i1, i2, i3, i4, i5, i6, i7⟩ := h
  refine ⟨i1, i2, i3, i4, i5, i6, fun j k hj => ?_⟩
  have hj : va_up c.2.2.2.2.2 i (some m) j = some k := hj
  by_cases z : j = i
  · simp only [va_up, if_pos z] at hj
    cases hj
    exact hm
  · simp only [va_up, if_neg z] at hj
    exact i7 j k hj
theorem kp.bk {c c1 : CS} {m : Nat} (h : kp c c1) (hm : m < cN c1) : m < cN c := by rw [← h.1]; exact hm
/-- done and level are kept too -/
def kl (c c1 : CS) : Prop := kf 0 10 10 c c1 ∧ c1.1 0 10 6 = c.1 0 10 6
theorem kl.rf {c : CS} : kl c c := ⟨kf.rf, rfl⟩
theorem kl.tr {c c1 c2 : CS} (h : kl c c1) (k : kl c1 c2) : kl c c2 := ⟨h.1.tr k.1, k.2.trans h.2⟩
theorem kl.lt {c c1 : CS} {m : Nat} (h : kl c c1) (hm : m < cN c) : m < cN c1 := h.1.lt hm
theorem kl.bk {c c1 : CS} {m : Nat} (h : kl c c1) (hm : m < cN c1) : m < cN c := h.1.1.bk hm
theorem kf.bk {a0 b0 k0 : Nat} {c c1 : CS} {m : Nat} (h : kf a0 b0 k0 c c1) (hm : m < cN c1) : m < cN c := h.1.bk hm
theorem kl.putS {c c1 : CS} {a b k : Nat} {v : Int32} (h : kl c c1) (ha : ((a < 2 ∧ ¬ (a = 0 ∧ b = 3 ∧ k = 5)) ∨ (b = 0 ∧ k = 11)) ∧ ¬ (0 = a ∧ 10 = b ∧ (10 = k ∨ 6 = k))) : kl c (tS c1 a b k v) := ⟨h.1.putS ⟨ha.1, fun z => ha.2 ⟨z.1, z.2.1, Or.inl z.2.2⟩⟩, (tS_rd (fun z => ha.2 ⟨z.1, z.2.1, Or.inr z.2.2⟩)).trans h.2⟩
theorem kl.putV {c c1 : CS} {a b j : Nat} {v : Int32} (h : kl c c1) (ha : a < 2 ∧ ¬ (a = 0 ∧ b = 3)) : kl c (tV c1 a b j v) := ⟨h.1.putV ha, h.2⟩
theorem kl.putJ {c c1 : CS} {a b j : Nat} {v : Int64} (h : kl c c1) (ha : a < 2 ∧ ¬ (a = 0 ∧ b = 3)) : kl c (tJ c1 a b j v) := ⟨h.1.putJ ha, h.2⟩
theorem kl.putQ {c c1 : CS} {i m : Nat} (h : kl c c1) : kl c (tQ c1 i m) := h
theorem kf.putQ {a0 b0 k0 : Nat} {c c1 : CS} {i m : Nat} (h : kf a0 b0 k0 c c1) : kf a0 b0 k0 c (tQ c1 i m) := h
theorem kp.putQ {c c1 : CS} {i m : Nat} (h : kp c c1) : kp c (tQ c1 i m) := h
def mKl (Γ : mG) (L : mI → Nat) (x : CS) (L1 : mI → Nat) (M1 : mM) : Prop := L1 = L ∧ ∃ c1 : CS, M1 = cM Γ L c1 ∧ CInv c1 ∧ kl x c1
theorem tV_self {x : CS} {a b j : Nat} {v : Int32} : (tV x a b j v).2.1 a b j = v := by
  show up3 x.2.1 a b (upd (x.2.1 a b) j v) a b j = _
  rw [up3_self]
  simp [upd]
/-! numbers of the heap's things -/
def h_nul (md k : Int32) : Bool := decide (k ≤ 0) || (decide (md < k) || !decide (k ≤ 20))
theorem nul_nat {md k : Int32} (h : h_nul md k = false) : ∃ n, 1 ≤ n ∧ n ≤ 20 ∧ k = nI n := by
  unfold h_nul at h
  simp only [Bool.or_eq_false_iff, decide_eq_false_iff_not, Bool.not_eq_false', decide_eq_true_iff] at h
  obtain ⟨h1, -, h3⟩ := h
  rw [Int32.le_iff_toInt_le] at h1 h3
  have e0 : (0 : Int32).toInt = 0 := by decide
  have e20 : (20 : Int32).toInt = 20 := by decide
  obtain ⟨e, -⟩ := nat_of_toInt (a := k) (by omega)
  exact ⟨_, by omega, by omega, e⟩
theorem len_nat {v k : Int32} (hv : v.toInt ≤ 30) (h0 : ¬ k < 0) (h1 : ¬ v ≤ k) : ∃ n, n < 30 ∧ k = nI n := by
  rw [Int32.le_iff_toInt_le] at h1
  rw [Int32.lt_iff_toInt_lt] at h0
  have e0 : (0 : Int32).toInt = 0 := by decide
  obtain ⟨e, -⟩ := nat_of_toInt (a := k) (by omega)
  exact ⟨_, by omega, e⟩
theorem le30 {k : Int32} (h : k ≤ 30) : k.toInt ≤ 30 := by
  rw [Int32.le_iff_toInt_le] at h
  have e : (30 : Int32).toInt = 30 := by decide
  omega
theorem nat_18 {k : Int32} (h0 : ¬ k ≤ 0) (h1 : k ≤ 8) : ∃ n, 1 ≤ n ∧ n ≤ 8 ∧ k = nI n := by
  rw [Int32.le_iff_toInt_le] at h0 h1
  have e0 : (0 : Int32).toInt = 0 := by decide
  have e8 : (8 : Int32).toInt = 8 := by decide
  obtain ⟨e, -⟩ := nat_of_toInt (a := k) (by omega)
  exact ⟨_, by omega, by omega, e⟩
