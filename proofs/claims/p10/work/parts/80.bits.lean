/-! THE REFERENCE: which METHODS are in question -/
def bt (v : Int32) (k : Nat) : Bool := v.toBitVec.getLsbD k
theorem bt_0 {v : Int32} {k : Nat} (hk : k < 8) : ((v >>> (nI k &&& 31)) &&& 1 = 0) ↔ bt v k = false := by
  have h : k = 0 ∨ k = 1 ∨ k = 2 ∨ k = 3 ∨ k = 4 ∨ k = 5 ∨ k = 6 ∨ k = 7 := by omega
  have key : ∀ n : Nat, n < 8 → ∀ w : Int32, w.toBitVec = v.toBitVec.sshiftRight n → ((w &&& 1 = 0) ↔ v.toBitVec.getLsbD n = false) := by
    intro n hn w hw
    have g : (v.toBitVec.sshiftRight n).getLsbD 0 = v.toBitVec.getLsbD n := by
      rw [BitVec.getLsbD_sshiftRight]
      simp [show n < 32 by omega]
    have g2 : (v.toBitVec.sshiftRight n)[0] = v.toBitVec.getLsbD n := by
      rw [← BitVec.getLsbD_eq_getElem (by decide)]; exact g
    rw [← Int32.toBitVec_inj, Int32.toBitVec_and, hw]
    constructor
    · intro e
      have := congrArg (fun b => b.getLsbD 0) e
      simp at this
      rw [← g2]; exact this
    · intro e
      apply BitVec.eq_of_getLsbD_eq
      intro i hi
      by_cases c : i = 0
      · subst c
        simp
        rw [g2]; exact e
      · simp [c, BitVec.getLsbD_one]
  unfold bt
  rcases h with rfl | rfl | rfl | rfl | rfl | rfl | rfl | rfl
  all_goals exact key _ (by decide) _ (by rw [Int32.toBitVec_shiftRight]; rfl)
theorem bt_or {v w : Int32} {k : Nat} : bt (v ||| w) k = (bt v k || bt w k) := by
  unfold bt
  rw [Int32.toBitVec_or, BitVec.getLsbD_or]
theorem bt_1 : ∀ t, t < 8 → ∀ k, k < 8 → bt ((1 : Int32) <<< (nI t &&& 31)) k = decide (k = t) := by decide +kernel
def dj : Nat → Int32
  | 0 => -1
  | n + 1 => nI n
theorem dj_dn : ∀ n, n < 9 → nI n + (-1) = dj n := by decide +kernel
