/-! THE REFERENCE: its state x: x.1 k the field k (an int or 0, 1), x.2.1 k the int (or boolean) array of field k, x.2.2 k the long array of field k -/
abbrev RS : Type := (Nat → Int32) × (Nat → Nat → Int32) × (Nat → Nat → Int64)
def sS (x : RS) (k : Nat) (v : Int32) : RS := (upd x.1 k v, x.2)
def sA (x : RS) (k j : Nat) (v : Int32) : RS := (x.1, va_up x.2.1 k (upd (x.2.1 k) j v), x.2.2)
def sJ (x : RS) (k j : Nat) (v : Int64) : RS := (x.1, x.2.1, va_up x.2.2 k (vp_updL (x.2.2 k) j v))
def rF (L : mI → Nat) (x : RS) : List Value := [.int (x.1 0), .ref (L (.inr (0, 1, 0))), .ref (L (.inr (0, 2, 0))), .ref (L (.inr (0, 3, 0))), .ref (L (.inr (0, 4, 0))), .ref (L (.inr (0, 5, 0))), .ref (L (.inr (0, 6, 0))), .ref (L (.inr (0, 7, 0))), .ref (L (.inr (0, 8, 0))), .ref (L (.inr (0, 9, 0))), .int (x.1 10), .ref (L (.inr (0, 11, 0))), .ref (L (.inr (0, 12, 0))), .int (x.1 13), .ref (L (.inr (0, 14, 0))), .int (x.1 15), .int (x.1 16), .ref (L (.inr (0, 17, 0))), .ref (L (.inr (0, 18, 0))), .ref (L (.inr (0, 19, 0))), .ref (L (.inr (0, 20, 0))), .ref (L (.inr (0, 21, 0))), .int (x.1 22), .int (x.1 23), .ref (L (.inr (0, 24, 0))), .ref (L (.inr (0, 25, 0))), .ref (L (.inr (0, 26, 0))), .ref (L (.inr (0, 27, 0))), .int (x.1 28), .int (x.1 29), .int (x.1 30), .int (x.1 31), .int (x.1 32), .int (x.1 33), .int (x.1 34)]
def rA (Γ : mG) (x : RS) : Nat → Nat → Option va_E := fun k b => match b with
  | 0 => match k with
    | 1 => some (.inl (Γ.2.1 0, 8, .inl (x.2.1 1)))
    | 2 => some (.inl (Γ.2.1 0, 8, .inl (x.2.1 2)))
    | 3 => some (.inl (Γ.2.1 0, 320, .inl (x.2.1 3)))
    | 4 => some (.inl (Γ.2.1 1, 320, .inr (.inl (x.2.2 4))))
    | 5 => some (.inl (Γ.2.1 0, 8, .inl (x.2.1 5)))
    | 6 => some (.inl (Γ.2.1 0, 192, .inl (x.2.1 6)))
    | 7 => some (.inl (Γ.2.1 0, 320, .inl (x.2.1 7)))
    | 8 => some (.inl (Γ.2.1 0, 5120, .inl (x.2.1 8)))
    | 9 => some (.inl (Γ.2.1 2, 8, .inl (x.2.1 9)))
    | 11 => some (.inl (Γ.2.1 0, 40, .inl (x.2.1 11)))
    | 12 => some (.inl (Γ.2.1 0, 640, .inl (x.2.1 12)))
    | 14 => some (.inl (Γ.2.1 0, 16, .inl (x.2.1 14)))
    | 17 => some (.inl (Γ.2.1 0, 8, .inl (x.2.1 17)))
    | 18 => some (.inl (Γ.2.1 1, 128, .inr (.inl (x.2.2 18))))
    | 19 => some (.inl (Γ.2.1 0, 8, .inl (x.2.1 19)))
    | 20 => some (.inl (Γ.2.1 0, 8, .inl (x.2.1 20)))
    | 21 => some (.inl (Γ.2.1 0, 8, .inl (x.2.1 21)))
    | 24 => some (.inl (Γ.2.1 0, 20, .inl (x.2.1 24)))
    | 25 => some (.inl (Γ.2.1 0, 20, .inl (x.2.1 25)))
    | 26 => some (.inl (Γ.2.1 0, 20, .inl (x.2.1 26)))
    | 27 => some (.inl (Γ.2.1 1, 600, .inr (.inl (x.2.2 27))))
    | _ => none
  | _ + 1 => none
def rM (Γ : mG) (L : mI → Nat) (x : RS) : mM := ([.inr (8, rF L x)], [rA Γ x])
theorem rU_1 (Γ : mG) (x : RS) (j : Nat) (v : Int32) : up2 (rA Γ x) 1 0 (.inl (Γ.2.1 0, 8, .inl (upd (x.2.1 1) j v))) = rA Γ (sA x 1 j v) := by
  funext a b
  by_cases h : a = 1 ∧ b = 0
  · obtain ⟨rfl, rfl⟩ := h
    simp [up2, rA, sA, va_up]
  · simp only [up2, if_neg h]
    match b, a, h with
    | 0, 0, _ => rfl
    | 0, 1, h => exact absurd ⟨rfl, rfl⟩ h
    | 0, 2, _ => rfl
    | 0, 3, _ => rfl
    | 0, 4, _ => rfl
    | 0, 5, _ => rfl
    | 0, 6, _ => rfl
    | 0, 7, _ => rfl
    | 0, 8, _ => rfl
    | 0, 9, _ => rfl
    | 0, 10, _ => rfl
    | 0, 11, _ => rfl
    | 0, 12, _ => rfl
    | 0, 13, _ => rfl
    | 0, 14, _ => rfl
    | 0, 15, _ => rfl
    | 0, 16, _ => rfl
    | 0, 17, _ => rfl
    | 0, 18, _ => rfl
    | 0, 19, _ => rfl
    | 0, 20, _ => rfl
    | 0, 21, _ => rfl
    | 0, 22, _ => rfl
    | 0, 23, _ => rfl
    | 0, 24, _ => rfl
    | 0, 25, _ => rfl
    | 0, 26, _ => rfl
    | 0, 27, _ => rfl
    | 0, _ + 28, _ => rfl
    | _ + 1, _, _ => rfl
theorem rU_2 (Γ : mG) (x : RS) (j : Nat) (v : Int32) : up2 (rA Γ x) 2 0 (.inl (Γ.2.1 0, 8, .inl (upd (x.2.1 2) j v))) = rA Γ (sA x 2 j v) := by
  funext a b
  by_cases h : a = 2 ∧ b = 0
  · obtain ⟨rfl, rfl⟩ := h
    simp [up2, rA, sA, va_up]
  · simp only [up2, if_neg h]
    match b, a, h with
    | 0, 0, _ => rfl
    | 0, 1, _ => rfl
    | 0, 2, h => exact absurd ⟨rfl, rfl⟩ h
    | 0, 3, _ => rfl
    | 0, 4, _ => rfl
    | 0, 5, _ => rfl
    | 0, 6, _ => rfl
    | 0, 7, _ => rfl
    | 0, 8, _ => rfl
    | 0, 9, _ => rfl
    | 0, 10, _ => rfl
    | 0, 11, _ => rfl
    | 0, 12, _ => rfl
    | 0, 13, _ => rfl
    | 0, 14, _ => rfl
    | 0, 15, _ => rfl
    | 0, 16, _ => rfl
    | 0, 17, _ => rfl
    | 0, 18, _ => rfl
    | 0, 19, _ => rfl
    | 0, 20, _ => rfl
    | 0, 21, _ => rfl
    | 0, 22, _ => rfl
    | 0, 23, _ => rfl
    | 0, 24, _ => rfl
    | 0, 25, _ => rfl
    | 0, 26, _ => rfl
    | 0, 27, _ => rfl
    | 0, _ + 28, _ => rfl
    | _ + 1, _, _ => rfl
theorem rU_3 (Γ : mG) (x : RS) (j : Nat) (v : Int32) : up2 (rA Γ x) 3 0 (.inl (Γ.2.1 0, 320, .inl (upd (x.2.1 3) j v))) = rA Γ (sA x 3 j v) := by
  funext a b
  by_cases h : a = 3 ∧ b = 0
  · obtain ⟨rfl, rfl⟩ := h
    simp [up2, rA, sA, va_up]
  · simp only [up2, if_neg h]
    match b, a, h with
    | 0, 0, _ => rfl
    | 0, 1, _ => rfl
    | 0, 2, _ => rfl
    | 0, 3, h => exact absurd ⟨rfl, rfl⟩ h
    | 0, 4, _ => rfl
    | 0, 5, _ => rfl
    | 0, 6, _ => rfl
    | 0, 7, _ => rfl
    | 0, 8, _ => rfl
    | 0, 9, _ => rfl
    | 0, 10, _ => rfl
    | 0, 11, _ => rfl
    | 0, 12, _ => rfl
    | 0, 13, _ => rfl
    | 0, 14, _ => rfl
    | 0, 15, _ => rfl
    | 0, 16, _ => rfl
    | 0, 17, _ => rfl
    | 0, 18, _ => rfl
    | 0, 19, _ => rfl
    | 0, 20, _ => rfl
    | 0, 21, _ => rfl
    | 0, 22, _ => rfl
    | 0, 23, _ => rfl
    | 0, 24, _ => rfl
    | 0, 25, _ => rfl
    | 0, 26, _ => rfl
    | 0, 27, _ => rfl
    | 0, _ + 28, _ => rfl
    | _ + 1, _, _ => rfl
theorem rU_4 (Γ : mG) (x : RS) (j : Nat) (v : Int64) : up2 (rA Γ x) 4 0 (.inl (Γ.2.1 1, 320, .inr (.inl (vp_updL (x.2.2 4) j v)))) = rA Γ (sJ x 4 j v) := by
  funext a b
  by_cases h : a = 4 ∧ b = 0
  · obtain ⟨rfl, rfl⟩ := h
    simp [up2, rA, sJ, va_up]
  · simp only [up2, if_neg h]
    match b, a, h with
    | 0, 0, _ => rfl
    | 0, 1, _ => rfl
    | 0, 2, _ => rfl
    | 0, 3, _ => rfl
    | 0, 4, h => exact absurd ⟨rfl, rfl⟩ h
    | 0, 5, _ => rfl
    | 0, 6, _ => rfl
    | 0, 7, _ => rfl
    | 0, 8, _ => rfl
    | 0, 9, _ => rfl
    | 0, 10, _ => rfl
    | 0, 11, _ => rfl
    | 0, 12, _ => rfl
    | 0, 13, _ => rfl
    | 0, 14, _ => rfl
    | 0, 15, _ => rfl
    | 0, 16, _ => rfl
    | 0, 17, _ => rfl
    | 0, 18, _ => rfl
    | 0, 19, _ => rfl
    | 0, 20, _ => rfl
    | 0, 21, _ => rfl
    | 0, 22, _ => rfl
    | 0, 23, _ => rfl
    | 0, 24, _ => rfl
    | 0, 25, _ => rfl
    | 0, 26, _ => rfl
    | 0, 27, _ => rfl
    | 0, _ + 28, _ => rfl
    | _ + 1, _, _ => rfl
theorem rU_5 (Γ : mG) (x : RS) (j : Nat) (v : Int32) : up2 (rA Γ x) 5 0 (.inl (Γ.2.1 0, 8, .inl (upd (x.2.1 5) j v))) = rA Γ (sA x 5 j v) := by
  funext a b
  by_cases h : a = 5 ∧ b = 0
  · obtain ⟨rfl, rfl⟩ := h
    simp [up2, rA, sA, va_up]
  · simp only [up2, if_neg h]
    match b, a, h with
    | 0, 0, _ => rfl
    | 0, 1, _ => rfl
    | 0, 2, _ => rfl
    | 0, 3, _ => rfl
    | 0, 4, _ => rfl
    | 0, 5, h => exact absurd ⟨rfl, rfl⟩ h
    | 0, 6, _ => rfl
    | 0, 7, _ => rfl
    | 0, 8, _ => rfl
    | 0, 9, _ => rfl
    | 0, 10, _ => rfl
    | 0, 11, _ => rfl
    | 0, 12, _ => rfl
    | 0, 13, _ => rfl
    | 0, 14, _ => rfl
    | 0, 15, _ => rfl
    | 0, 16, _ => rfl
    | 0, 17, _ => rfl
    | 0, 18, _ => rfl
    | 0, 19, _ => rfl
    | 0, 20, _ => rfl
    | 0, 21, _ => rfl
    | 0, 22, _ => rfl
    | 0, 23, _ => rfl
    | 0, 24, _ => rfl
    | 0, 25, _ => rfl
    | 0, 26, _ => rfl
    | 0, 27, _ => rfl
    | 0, _ + 28, _ => rfl
    | _ + 1, _, _ => rfl
theorem rU_6 (Γ : mG) (x : RS) (j : Nat) (v : Int32) : up2 (rA Γ x) 6 0 (.inl (Γ.2.1 0, 192, .inl (upd (x.2.1 6) j v))) = rA Γ (sA x 6 j v) := by
  funext a b
  by_cases h : a = 6 ∧ b = 0
  · obtain ⟨rfl, rfl⟩ := h
    simp [up2, rA, sA, va_up]
  · simp only [up2, if_neg h]
    match b, a, h with
    | 0, 0, _ => rfl
    | 0, 1, _ => rfl
    | 0, 2, _ => rfl
    | 0, 3, _ => rfl
    | 0, 4, _ => rfl
    | 0, 5, _ => rfl
    | 0, 6, h => exact absurd ⟨rfl, rfl⟩ h
    | 0, 7, _ => rfl
    | 0, 8, _ => rfl
    | 0, 9, _ => rfl
    | 0, 10, _ => rfl
    | 0, 11, _ => rfl
    | 0, 12, _ => rfl
    | 0, 13, _ => rfl
    | 0, 14, _ => rfl
    | 0, 15, _ => rfl
    | 0, 16, _ => rfl
    | 0, 17, _ => rfl
    | 0, 18, _ => rfl
    | 0, 19, _ => rfl
    | 0, 20, _ => rfl
    | 0, 21, _ => rfl
    | 0, 22, _ => rfl
    | 0, 23, _ => rfl
    | 0, 24, _ => rfl
    | 0, 25, _ => rfl
    | 0, 26, _ => rfl
    | 0, 27, _ => rfl
    | 0, _ + 28, _ => rfl
    | _ + 1, _, _ => rfl
theorem rU_7 (Γ : mG) (x : RS) (j : Nat) (v : Int32) : up2 (rA Γ x) 7 0 (.inl (Γ.2.1 0, 320, .inl (upd (x.2.1 7) j v))) = rA Γ (sA x 7 j v) := by
  funext a b
  by_cases h : a = 7 ∧ b = 0
  · obtain ⟨rfl, rfl⟩ := h
    simp [up2, rA, sA, va_up]
  · simp only [up2, if_neg h]
    match b, a, h with
    | 0, 0, _ => rfl
    | 0, 1, _ => rfl
    | 0, 2, _ => rfl
    | 0, 3, _ => rfl
    | 0, 4, _ => rfl
    | 0, 5, _ => rfl
    | 0, 6, _ => rfl
    | 0, 7, h => exact absurd ⟨rfl, rfl⟩ h
    | 0, 8, _ => rfl
    | 0, 9, _ => rfl
    | 0, 10, _ => rfl
    | 0, 11, _ => rfl
    | 0, 12, _ => rfl
    | 0, 13, _ => rfl
    | 0, 14, _ => rfl
    | 0, 15, _ => rfl
    | 0, 16, _ => rfl
    | 0, 17, _ => rfl
    | 0, 18, _ => rfl
    | 0, 19, _ => rfl
    | 0, 20, _ => rfl
    | 0, 21, _ => rfl
    | 0, 22, _ => rfl
    | 0, 23, _ => rfl
    | 0, 24, _ => rfl
    | 0, 25, _ => rfl
    | 0, 26, _ => rfl
    | 0, 27, _ => rfl
    | 0, _ + 28, _ => rfl
    | _ + 1, _, _ => rfl
theorem rU_8 (Γ : mG) (x : RS) (j : Nat) (v : Int32) : up2 (rA Γ x) 8 0 (.inl (Γ.2.1 0, 5120, .inl (upd (x.2.1 8) j v))) = rA Γ (sA x 8 j v) := by
  funext a b
  by_cases h : a = 8 ∧ b = 0
  · obtain ⟨rfl, rfl⟩ := h
    simp [up2, rA, sA, va_up]
  · simp only [up2, if_neg h]
    match b, a, h with
    | 0, 0, _ => rfl
    | 0, 1, _ => rfl
    | 0, 2, _ => rfl
    | 0, 3, _ => rfl
    | 0, 4, _ => rfl
    | 0, 5, _ => rfl
    | 0, 6, _ => rfl
    | 0, 7, _ => rfl
    | 0, 8, h => exact absurd ⟨rfl, rfl⟩ h
    | 0, 9, _ => rfl
    | 0, 10, _ => rfl
    | 0, 11, _ => rfl
    | 0, 12, _ => rfl
    | 0, 13, _ => rfl
    | 0, 14, _ => rfl
    | 0, 15, _ => rfl
    | 0, 16, _ => rfl
    | 0, 17, _ => rfl
    | 0, 18, _ => rfl
    | 0, 19, _ => rfl
    | 0, 20, _ => rfl
    | 0, 21, _ => rfl
    | 0, 22, _ => rfl
    | 0, 23, _ => rfl
    | 0, 24, _ => rfl
    | 0, 25, _ => rfl
    | 0, 26, _ => rfl
    | 0, 27, _ => rfl
    | 0, _ + 28, _ => rfl
    | _ + 1, _, _ => rfl
theorem rU_9 (Γ : mG) (x : RS) (j : Nat) (v : Int32) : up2 (rA Γ x) 9 0 (.inl (Γ.2.1 2, 8, .inl (upd (x.2.1 9) j v))) = rA Γ (sA x 9 j v) := by
  funext a b
  by_cases h : a = 9 ∧ b = 0
  · obtain ⟨rfl, rfl⟩ := h
    simp [up2, rA, sA, va_up]
  · simp only [up2, if_neg h]
    match b, a, h with
    | 0, 0, _ => rfl
    | 0, 1, _ => rfl
    | 0, 2, _ => rfl
    | 0, 3, _ => rfl
    | 0, 4, _ => rfl
    | 0, 5, _ => rfl
    | 0, 6, _ => rfl
    | 0, 7, _ => rfl
    | 0, 8, _ => rfl
    | 0, 9, h => exact absurd ⟨rfl, rfl⟩ h
    | 0, 10, _ => rfl
    | 0, 11, _ => rfl
    | 0, 12, _ => rfl
    | 0, 13, _ => rfl
    | 0, 14, _ => rfl
    | 0, 15, _ => rfl
    | 0, 16, _ => rfl
    | 0, 17, _ => rfl
    | 0, 18, _ => rfl
    | 0, 19, _ => rfl
    | 0, 20, _ => rfl
    | 0, 21, _ => rfl
    | 0, 22, _ => rfl
    | 0, 23, _ => rfl
    | 0, 24, _ => rfl
    | 0, 25, _ => rfl
    | 0, 26, _ => rfl
    | 0, 27, _ => rfl
    | 0, _ + 28, _ => rfl
    | _ + 1, _, _ => rfl
theorem rU_11 (Γ : mG) (x : RS) (j : Nat) (v : Int32) : up2 (rA Γ x) 11 0 (.inl (Γ.2.1 0, 40, .inl (upd (x.2.1 11) j v))) = rA Γ (sA x 11 j v) := by
  funext a b
  by_cases h : a = 11 ∧ b = 0
  · obtain ⟨rfl, rfl⟩ := h
    simp [up2, rA, sA, va_up]
  · simp only [up2, if_neg h]
    match b, a, h with
    | 0, 0, _ => rfl
    | 0, 1, _ => rfl
    | 0, 2, _ => rfl
    | 0, 3, _ => rfl
    | 0, 4, _ => rfl
    | 0, 5, _ => rfl
    | 0, 6, _ => rfl
    | 0, 7, _ => rfl
    | 0, 8, _ => rfl
    | 0, 9, _ => rfl
    | 0, 10, _ => rfl
    | 0, 11, h => exact absurd ⟨rfl, rfl⟩ h
    | 0, 12, _ => rfl
    | 0, 13, _ => rfl
    | 0, 14, _ => rfl
    | 0, 15, _ => rfl
    | 0, 16, _ => rfl
    | 0, 17, _ => rfl
    | 0, 18, _ => rfl
    | 0, 19, _ => rfl
    | 0, 20, _ => rfl
    | 0, 21, _ => rfl
    | 0, 22, _ => rfl
    | 0, 23, _ => rfl
    | 0, 24, _ => rfl
    | 0, 25, _ => rfl
    | 0, 26, _ => rfl
    | 0, 27, _ => rfl
    | 0, _ + 28, _ => rfl
    | _ + 1, _, _ => rfl
theorem rU_12 (Γ : mG) (x : RS) (j : Nat) (v : Int32) : up2 (rA Γ x) 12 0 (.inl (Γ.2.1 0, 640, .inl (upd (x.2.1 12) j v))) = rA Γ (sA x 12 j v) := by
  funext a b
  by_cases h : a = 12 ∧ b = 0
  · obtain ⟨rfl, rfl⟩ := h
    simp [up2, rA, sA, va_up]
  · simp only [up2, if_neg h]
    match b, a, h with
    | 0, 0, _ => rfl
    | 0, 1, _ => rfl
    | 0, 2, _ => rfl
    | 0, 3, _ => rfl
    | 0, 4, _ => rfl
    | 0, 5, _ => rfl
    | 0, 6, _ => rfl
    | 0, 7, _ => rfl
    | 0, 8, _ => rfl
    | 0, 9, _ => rfl
    | 0, 10, _ => rfl
    | 0, 11, _ => rfl
    | 0, 12, h => exact absurd ⟨rfl, rfl⟩ h
    | 0, 13, _ => rfl
    | 0, 14, _ => rfl
    | 0, 15, _ => rfl
    | 0, 16, _ => rfl
    | 0, 17, _ => rfl
    | 0, 18, _ => rfl
    | 0, 19, _ => rfl
    | 0, 20, _ => rfl
    | 0, 21, _ => rfl
    | 0, 22, _ => rfl
    | 0, 23, _ => rfl
    | 0, 24, _ => rfl
    | 0, 25, _ => rfl
    | 0, 26, _ => rfl
    | 0, 27, _ => rfl
    | 0, _ + 28, _ => rfl
    | _ + 1, _, _ => rfl
theorem rU_14 (Γ : mG) (x : RS) (j : Nat) (v : Int32) : up2 (rA Γ x) 14 0 (.inl (Γ.2.1 0, 16, .inl (upd (x.2.1 14) j v))) = rA Γ (sA x 14 j v) := by
  funext a b
  by_cases h : a = 14 ∧ b = 0
  · obtain ⟨rfl, rfl⟩ := h
    simp [up2, rA, sA, va_up]
  · simp only [up2, if_neg h]
    match b, a, h with
    | 0, 0, _ => rfl
    | 0, 1, _ => rfl
    | 0, 2, _ => rfl
    | 0, 3, _ => rfl
    | 0, 4, _ => rfl
    | 0, 5, _ => rfl
    | 0, 6, _ => rfl
    | 0, 7, _ => rfl
    | 0, 8, _ => rfl
    | 0, 9, _ => rfl
    | 0, 10, _ => rfl
    | 0, 11, _ => rfl
    | 0, 12, _ => rfl
    | 0, 13, _ => rfl
    | 0, 14, h => exact absurd ⟨rfl, rfl⟩ h
    | 0, 15, _ => rfl
    | 0, 16, _ => rfl
    | 0, 17, _ => rfl
    | 0, 18, _ => rfl
    | 0, 19, _ => rfl
    | 0, 20, _ => rfl
    | 0, 21, _ => rfl
    | 0, 22, _ => rfl
    | 0, 23, _ => rfl
    | 0, 24, _ => rfl
    | 0, 25, _ => rfl
    | 0, 26, _ => rfl
    | 0, 27, _ => rfl
    | 0, _ + 28, _ => rfl
    | _ + 1, _, _ => rfl
theorem rU_17 (Γ : mG) (x : RS) (j : Nat) (v : Int32) : up2 (rA Γ x) 17 0 (.inl (Γ.2.1 0, 8, .inl (upd (x.2.1 17) j v))) = rA Γ (sA x 17 j v) := by
  funext a b
  by_cases h : a = 17 ∧ b = 0
  · obtain ⟨rfl, rfl⟩ := h
    simp [up2, rA, sA, va_up]
  · simp only [up2, if_neg h]
    match b, a, h with
    | 0, 0, _ => rfl
    | 0, 1, _ => rfl
    | 0, 2, _ => rfl
    | 0, 3, _ => rfl
    | 0, 4, _ => rfl
    | 0, 5, _ => rfl
    | 0, 6, _ => rfl
    | 0, 7, _ => rfl
    | 0, 8, _ => rfl
    | 0, 9, _ => rfl
    | 0, 10, _ => rfl
    | 0, 11, _ => rfl
    | 0, 12, _ => rfl
    | 0, 13, _ => rfl
    | 0, 14, _ => rfl
    | 0, 15, _ => rfl
    | 0, 16, _ => rfl
    | 0, 17, h => exact absurd ⟨rfl, rfl⟩ h
    | 0, 18, _ => rfl
    | 0, 19, _ => rfl
    | 0, 20, _ => rfl
    | 0, 21, _ => rfl
    | 0, 22, _ => rfl
    | 0, 23, _ => rfl
    | 0, 24, _ => rfl
    | 0, 25, _ => rfl
    | 0, 26, _ => rfl
    | 0, 27, _ => rfl
    | 0, _ + 28, _ => rfl
    | _ + 1, _, _ => rfl
theorem rU_18 (Γ : mG) (x : RS) (j : Nat) (v : Int64) : up2 (rA Γ x) 18 0 (.inl (Γ.2.1 1, 128, .inr (.inl (vp_updL (x.2.2 18) j v)))) = rA Γ (sJ x 18 j v) := by
  funext a b
  by_cases h : a = 18 ∧ b = 0
  · obtain ⟨rfl, rfl⟩ := h
    simp [up2, rA, sJ, va_up]
  · simp only [up2, if_neg h]
    match b, a, h with
    | 0, 0, _ => rfl
    | 0, 1, _ => rfl
    | 0, 2, _ => rfl
    | 0, 3, _ => rfl
    | 0, 4, _ => rfl
    | 0, 5, _ => rfl
    | 0, 6, _ => rfl
    | 0, 7, _ => rfl
    | 0, 8, _ => rfl
    | 0, 9, _ => rfl
    | 0, 10, _ => rfl
    | 0, 11, _ => rfl
    | 0, 12, _ => rfl
    | 0, 13, _ => rfl
    | 0, 14, _ => rfl
    | 0, 15, _ => rfl
    | 0, 16, _ => rfl
    | 0, 17, _ => rfl
    | 0, 18, h => exact absurd ⟨rfl, rfl⟩ h
    | 0, 19, _ => rfl
    | 0, 20, _ => rfl
    | 0, 21, _ => rfl
    | 0, 22, _ => rfl
    | 0, 23, _ => rfl
    | 0, 24, _ => rfl
    | 0, 25, _ => rfl
    | 0, 26, _ => rfl
    | 0, 27, _ => rfl
    | 0, _ + 28, _ => rfl
    | _ + 1, _, _ => rfl
theorem rU_19 (Γ : mG) (x : RS) (j : Nat) (v : Int32) : up2 (rA Γ x) 19 0 (.inl (Γ.2.1 0, 8, .inl (upd (x.2.1 19) j v))) = rA Γ (sA x 19 j v) := by
  funext a b
  by_cases h : a = 19 ∧ b = 0
  · obtain ⟨rfl, rfl⟩ := h
    simp [up2, rA, sA, va_up]
  · simp only [up2, if_neg h]
    match b, a, h with
    | 0, 0, _ => rfl
    | 0, 1, _ => rfl
    | 0, 2, _ => rfl
    | 0, 3, _ => rfl
    | 0, 4, _ => rfl
    | 0, 5, _ => rfl
    | 0, 6, _ => rfl
    | 0, 7, _ => rfl
    | 0, 8, _ => rfl
    | 0, 9, _ => rfl
    | 0, 10, _ => rfl
    | 0, 11, _ => rfl
    | 0, 12, _ => rfl
    | 0, 13, _ => rfl
    | 0, 14, _ => rfl
    | 0, 15, _ => rfl
    | 0, 16, _ => rfl
    | 0, 17, _ => rfl
    | 0, 18, _ => rfl
    | 0, 19, h => exact absurd ⟨rfl, rfl⟩ h
    | 0, 20, _ => rfl
    | 0, 21, _ => rfl
    | 0, 22, _ => rfl
    | 0, 23, _ => rfl
    | 0, 24, _ => rfl
    | 0, 25, _ => rfl
    | 0, 26, _ => rfl
    | 0, 27, _ => rfl
    | 0, _ + 28, _ => rfl
    | _ + 1, _, _ => rfl
theorem rU_20 (Γ : mG) (x : RS) (j : Nat) (v : Int32) : up2 (rA Γ x) 20 0 (.inl (Γ.2.1 0, 8, .inl (upd (x.2.1 20) j v))) = rA Γ (sA x 20 j v) := by
  funext a b
  by_cases h : a = 20 ∧ b = 0
  · obtain ⟨rfl, rfl⟩ := h
    simp [up2, rA, sA, va_up]
  · simp only [up2, if_neg h]
    match b, a, h with
    | 0, 0, _ => rfl
    | 0, 1, _ => rfl
    | 0, 2, _ => rfl
    | 0, 3, _ => rfl
    | 0, 4, _ => rfl
    | 0, 5, _ => rfl
    | 0, 6, _ => rfl
    | 0, 7, _ => rfl
    | 0, 8, _ => rfl
    | 0, 9, _ => rfl
    | 0, 10, _ => rfl
    | 0, 11, _ => rfl
    | 0, 12, _ => rfl
    | 0, 13, _ => rfl
    | 0, 14, _ => rfl
    | 0, 15, _ => rfl
    | 0, 16, _ => rfl
    | 0, 17, _ => rfl
    | 0, 18, _ => rfl
    | 0, 19, _ => rfl
    | 0, 20, h => exact absurd ⟨rfl, rfl⟩ h
    | 0, 21, _ => rfl
    | 0, 22, _ => rfl
    | 0, 23, _ => rfl
    | 0, 24, _ => rfl
    | 0, 25, _ => rfl
    | 0, 26, _ => rfl
    | 0, 27, _ => rfl
    | 0, _ + 28, _ => rfl
    | _ + 1, _, _ => rfl
theorem rU_21 (Γ : mG) (x : RS) (j : Nat) (v : Int32) : up2 (rA Γ x) 21 0 (.inl (Γ.2.1 0, 8, .inl (upd (x.2.1 21) j v))) = rA Γ (sA x 21 j v) := by
  funext a b
  by_cases h : a = 21 ∧ b = 0
  · obtain ⟨rfl, rfl⟩ := h
    simp [up2, rA, sA, va_up]
  · simp only [up2, if_neg h]
    match b, a, h with
    | 0, 0, _ => rfl
    | 0, 1, _ => rfl
    | 0, 2, _ => rfl
    | 0, 3, _ => rfl
    | 0, 4, _ => rfl
    | 0, 5, _ => rfl
    | 0, 6, _ => rfl
    | 0, 7, _ => rfl
    | 0, 8, _ => rfl
    | 0, 9, _ => rfl
    | 0, 10, _ => rfl
    | 0, 11, _ => rfl
    | 0, 12, _ => rfl
    | 0, 13, _ => rfl
    | 0, 14, _ => rfl
    | 0, 15, _ => rfl
    | 0, 16, _ => rfl
    | 0, 17, _ => rfl
    | 0, 18, _ => rfl
    | 0, 19, _ => rfl
    | 0, 20, _ => rfl
    | 0, 21, h => exact absurd ⟨rfl, rfl⟩ h
    | 0, 22, _ => rfl
    | 0, 23, _ => rfl
    | 0, 24, _ => rfl
    | 0, 25, _ => rfl
    | 0, 26, _ => rfl
    | 0, 27, _ => rfl
    | 0, _ + 28, _ => rfl
    | _ + 1, _, _ => rfl
theorem rU_24 (Γ : mG) (x : RS) (j : Nat) (v : Int32) : up2 (rA Γ x) 24 0 (.inl (Γ.2.1 0, 20, .inl (upd (x.2.1 24) j v))) = rA Γ (sA x 24 j v) := by
  funext a b
  by_cases h : a = 24 ∧ b = 0
  · obtain ⟨rfl, rfl⟩ := h
    simp [up2, rA, sA, va_up]
  · simp only [up2, if_neg h]
    match b, a, h with
    | 0, 0, _ => rfl
    | 0, 1, _ => rfl
    | 0, 2, _ => rfl
    | 0, 3, _ => rfl
    | 0, 4, _ => rfl
    | 0, 5, _ => rfl
    | 0, 6, _ => rfl
    | 0, 7, _ => rfl
    | 0, 8, _ => rfl
    | 0, 9, _ => rfl
    | 0, 10, _ => rfl
    | 0, 11, _ => rfl
    | 0, 12, _ => rfl
    | 0, 13, _ => rfl
    | 0, 14, _ => rfl
    | 0, 15, _ => rfl
    | 0, 16, _ => rfl
    | 0, 17, _ => rfl
    | 0, 18, _ => rfl
    | 0, 19, _ => rfl
    | 0, 20, _ => rfl
    | 0, 21, _ => rfl
    | 0, 22, _ => rfl
    | 0, 23, _ => rfl
    | 0, 24, h => exact absurd ⟨rfl, rfl⟩ h
    | 0, 25, _ => rfl
    | 0, 26, _ => rfl
    | 0, 27, _ => rfl
    | 0, _ + 28, _ => rfl
    | _ + 1, _, _ => rfl
theorem rU_25 (Γ : mG) (x : RS) (j : Nat) (v : Int32) : up2 (rA Γ x) 25 0 (.inl (Γ.2.1 0, 20, .inl (upd (x.2.1 25) j v))) = rA Γ (sA x 25 j v) := by
  funext a b
  by_cases h : a = 25 ∧ b = 0
  · obtain ⟨rfl, rfl⟩ := h
    simp [up2, rA, sA, va_up]
  · simp only [up2, if_neg h]
    match b, a, h with
    | 0, 0, _ => rfl
    | 0, 1, _ => rfl
    | 0, 2, _ => rfl
    | 0, 3, _ => rfl
    | 0, 4, _ => rfl
    | 0, 5, _ => rfl
    | 0, 6, _ => rfl
    | 0, 7, _ => rfl
    | 0, 8, _ => rfl
    | 0, 9, _ => rfl
    | 0, 10, _ => rfl
    | 0, 11, _ => rfl
    | 0, 12, _ => rfl
    | 0, 13, _ => rfl
    | 0, 14, _ => rfl
    | 0, 15, _ => rfl
    | 0, 16, _ => rfl
    | 0, 17, _ => rfl
    | 0, 18, _ => rfl
    | 0, 19, _ => rfl
    | 0, 20, _ => rfl
    | 0, 21, _ => rfl
    | 0, 22, _ => rfl
    | 0, 23, _ => rfl
    | 0, 24, _ => rfl
    | 0, 25, h => exact absurd ⟨rfl, rfl⟩ h
    | 0, 26, _ => rfl
    | 0, 27, _ => rfl
    | 0, _ + 28, _ => rfl
    | _ + 1, _, _ => rfl
theorem rU_26 (Γ : mG) (x : RS) (j : Nat) (v : Int32) : up2 (rA Γ x) 26 0 (.inl (Γ.2.1 0, 20, .inl (upd (x.2.1 26) j v))) = rA Γ (sA x 26 j v) := by
  funext a b
  by_cases h : a = 26 ∧ b = 0
  · obtain ⟨rfl, rfl⟩ := h
    simp [up2, rA, sA, va_up]
  · simp only [up2, if_neg h]
    match b, a, h with
    | 0, 0, _ => rfl
    | 0, 1, _ => rfl
    | 0, 2, _ => rfl
    | 0, 3, _ => rfl
    | 0, 4, _ => rfl
    | 0, 5, _ => rfl
    | 0, 6, _ => rfl
    | 0, 7, _ => rfl
    | 0, 8, _ => rfl
    | 0, 9, _ => rfl
    | 0, 10, _ => rfl
    | 0, 11, _ => rfl
    | 0, 12, _ => rfl
    | 0, 13, _ => rfl
    | 0, 14, _ => rfl
    | 0, 15, _ => rfl
    | 0, 16, _ => rfl
    | 0, 17, _ => rfl
    | 0, 18, _ => rfl
    | 0, 19, _ => rfl
    | 0, 20, _ => rfl
    | 0, 21, _ => rfl
    | 0, 22, _ => rfl
    | 0, 23, _ => rfl
    | 0, 24, _ => rfl
    | 0, 25, _ => rfl
    | 0, 26, h => exact absurd ⟨rfl, rfl⟩ h
    | 0, 27, _ => rfl
    | 0, _ + 28, _ => rfl
    | _ + 1, _, _ => rfl
theorem rU_27 (Γ : mG) (x : RS) (j : Nat) (v : Int64) : up2 (rA Γ x) 27 0 (.inl (Γ.2.1 1, 600, .inr (.inl (vp_updL (x.2.2 27) j v)))) = rA Γ (sJ x 27 j v) := by
  funext a b
  by_cases h : a = 27 ∧ b = 0
  · obtain ⟨rfl, rfl⟩ := h
    simp [up2, rA, sJ, va_up]
  · simp only [up2, if_neg h]
    match b, a, h with
    | 0, 0, _ => rfl
    | 0, 1, _ => rfl
    | 0, 2, _ => rfl
    | 0, 3, _ => rfl
    | 0, 4, _ => rfl
    | 0, 5, _ => rfl
    | 0, 6, _ => rfl
    | 0, 7, _ => rfl
    | 0, 8, _ => rfl
    | 0, 9, _ => rfl
    | 0, 10, _ => rfl
    | 0, 11, _ => rfl
    | 0, 12, _ => rfl
    | 0, 13, _ => rfl
    | 0, 14, _ => rfl
    | 0, 15, _ => rfl
    | 0, 16, _ => rfl
    | 0, 17, _ => rfl
    | 0, 18, _ => rfl
    | 0, 19, _ => rfl
    | 0, 20, _ => rfl
    | 0, 21, _ => rfl
    | 0, 22, _ => rfl
    | 0, 23, _ => rfl
    | 0, 24, _ => rfl
    | 0, 25, _ => rfl
    | 0, 26, _ => rfl
    | 0, 27, h => exact absurd ⟨rfl, rfl⟩ h
    | 0, _ + 28, _ => rfl
    | _ + 1, _, _ => rfl
section RR
variable {p : Program} {l : Launch} {e : Env} {R : Room} {s : State} {m : MethodId} {args : Array Value} {below : List Frame} {meth : Method} {c : Code} {H : Heap} {locs : List Loc} {cells slots : Nat} {Q : State → Prop}
variable {cc : ByteArray} {pc nL : Nat} {ls : Array Slot} {rest : List Value} {Γ : mG} {A : Nat → Prop} {L : mI → Nat} {x : RS}
theorem r_get0 (X : mX Γ p m c cc nL s args RX10 A) (hw : mW Γ.1 vwCl A L (rM Γ L x) H) (hdg : decode cc pc = .ok (.getfield 75, 3)) (kk : W p l e R s m args below meth c H locs cells slots Q (F0 m (pc + 3) ls (.int (x.1 0) :: rest))) : W p l e R s m args below meth c H locs cells slots Q (F0 m pc ls (.ref (L (.inl 0)) :: rest)) := m_get X hw (i := .inl 0) (ci := 8) rfl rfl gX10 0 (by decide) fl_X10_75 rfl rfl hdg kk
theorem r_put0 {v : Int32} (X : mX Γ p m c cc nL s args RX10 A) (hw : mW Γ.1 vwCl A L (rM Γ L x) H) (hS : va_S A s.heap H locs) (hdg : decode cc pc = .ok (.putfield 75, 3)) (kk : ∀ (H1 : Heap) (locs1 : List Loc), mW Γ.1 vwCl A L (rM Γ L (sS x 0 v)) H1 → va_S A s.heap H1 locs1 → W p l e R s m args below meth c H1 locs1 cells slots Q (F0 m (pc + 3) ls rest)) : W p l e R s m args below meth c H locs cells slots Q (F0 m pc ls (.int v :: .ref (L (.inl 0)) :: rest)) := m_put X hw hS (i := .inl 0) (ci := 8) (ty := .int) rfl rfl gX10 tyX10 tyX10_ok nmX10 0 (by decide) fl_X10_75 rfl rfl rfl rfl rfl (show 0 < 35 by decide) hdg kk
theorem r_get1 (X : mX Γ p m c cc nL s args RX10 A) (hw : mW Γ.1 vwCl A L (rM Γ L x) H) (hdg : decode cc pc = .ok (.getfield 7, 3)) (kk : W p l e R s m args below meth c H locs cells slots Q (F0 m (pc + 3) ls (.ref (L (.inr (0, 1, 0))) :: rest))) : W p l e R s m args below meth c H locs cells slots Q (F0 m pc ls (.ref (L (.inl 0)) :: rest)) := m_get X hw (i := .inl 0) (ci := 8) rfl rfl gX10 1 (by decide) fl_X10_7 rfl rfl hdg kk
theorem r_ald1 {i : Int32} (X : mX Γ p m c cc nL s args RX10 A) (hw : mW Γ.1 vwCl A L (rM Γ L x) H) (hin : vp_in i 8) (hdg : decode cc pc = .ok (.iaload, 1)) (kk : W p l e R s m args below meth c H locs cells slots Q (F0 m (pc + 1) ls (.int (x.2.1 1 i.toNatClampNeg) :: rest))) : W p l e R s m args below meth c H locs cells slots Q (F0 m pc ls (.int i :: .ref (L (.inr (0, 1, 0))) :: rest)) := m_iald X hw (i := .inr (0, 1, 0)) rfl hin hdg kk
theorem r_ast1 {i v : Int32} (X : mX Γ p m c cc nL s args RX10 A) (hw : mW Γ.1 vwCl A L (rM Γ L x) H) (hS : va_S A s.heap H locs) (hin : vp_in i 8) (hdg : decode cc pc = .ok (.iastore, 1)) (kk : ∀ (H1 : Heap) (locs1 : List Loc), mW Γ.1 vwCl A L (rM Γ L (sA x 1 i.toNatClampNeg v)) H1 → va_S A s.heap H1 locs1 → W p l e R s m args below meth c H1 locs1 cells slots Q (F0 m (pc + 1) ls rest)) : W p l e R s m args below meth c H locs cells slots Q (F0 m pc ls (.int v :: .int i :: .ref (L (.inr (0, 1, 0))) :: rest)) := m_iast X hw hS (i := .inr (0, 1, 0)) rfl hin hdg (fun H1 locs1 h1 h2 => kk H1 locs1 (by have e := rU_1 Γ x i.toNatClampNeg v; show mW Γ.1 vwCl A L ([.inr (8, rF L x)], [rA Γ (sA x 1 i.toNatClampNeg v)]) H1; rw [← e]; exact h1) h2)
theorem r_get2 (X : mX Γ p m c cc nL s args RX10 A) (hw : mW Γ.1 vwCl A L (rM Γ L x) H) (hdg : decode cc pc = .ok (.getfield 13, 3)) (kk : W p l e R s m args below meth c H locs cells slots Q (F0 m (pc + 3) ls (.ref (L (.inr (0, 2, 0))) :: rest))) : W p l e R s m args below meth c H locs cells slots Q (F0 m pc ls (.ref (L (.inl 0)) :: rest)) := m_get X hw (i := .inl 0) (ci := 8) rfl rfl gX10 2 (by decide) fl_X10_13 rfl rfl hdg kk
theorem r_ald2 {i : Int32} (X : mX Γ p m c cc nL s args RX10 A) (hw : mW Γ.1 vwCl A L (rM Γ L x) H) (hin : vp_in i 8) (hdg : decode cc pc = .ok (.iaload, 1)) (kk : W p l e R s m args below meth c H locs cells slots Q (F0 m (pc + 1) ls (.int (x.2.1 2 i.toNatClampNeg) :: rest))) : W p l e R s m args below meth c H locs cells slots Q (F0 m pc ls (.int i :: .ref (L (.inr (0, 2, 0))) :: rest)) := m_iald X hw (i := .inr (0, 2, 0)) rfl hin hdg kk
theorem r_ast2 {i v : Int32} (X : mX Γ p m c cc nL s args RX10 A) (hw : mW Γ.1 vwCl A L (rM Γ L x) H) (hS : va_S A s.heap H locs) (hin : vp_in i 8) (hdg : decode cc pc = .ok (.iastore, 1)) (kk : ∀ (H1 : Heap) (locs1 : List Loc), mW Γ.1 vwCl A L (rM Γ L (sA x 2 i.toNatClampNeg v)) H1 → va_S A s.heap H1 locs1 → W p l e R s m args below meth c H1 locs1 cells slots Q (F0 m (pc + 1) ls rest)) : W p l e R s m args below meth c H locs cells slots Q (F0 m pc ls (.int v :: .int i :: .ref (L (.inr (0, 2, 0))) :: rest)) := m_iast X hw hS (i := .inr (0, 2, 0)) rfl hin hdg (fun H1 locs1 h1 h2 => kk H1 locs1 (by have e := rU_2 Γ x i.toNatClampNeg v; show mW Γ.1 vwCl A L ([.inr (8, rF L x)], [rA Γ (sA x 2 i.toNatClampNeg v)]) H1; rw [← e]; exact h1) h2)
theorem r_get3 (X : mX Γ p m c cc nL s args RX10 A) (hw : mW Γ.1 vwCl A L (rM Γ L x) H) (hdg : decode cc pc = .ok (.getfield 16, 3)) (kk : W p l e R s m args below meth c H locs cells slots Q (F0 m (pc + 3) ls (.ref (L (.inr (0, 3, 0))) :: rest))) : W p l e R s m args below meth c H locs cells slots Q (F0 m pc ls (.ref (L (.inl 0)) :: rest)) := m_get X hw (i := .inl 0) (ci := 8) rfl rfl gX10 3 (by decide) fl_X10_16 rfl rfl hdg kk
theorem r_ald3 {i : Int32} (X : mX Γ p m c cc nL s args RX10 A) (hw : mW Γ.1 vwCl A L (rM Γ L x) H) (hin : vp_in i 320) (hdg : decode cc pc = .ok (.iaload, 1)) (kk : W p l e R s m args below meth c H locs cells slots Q (F0 m (pc + 1) ls (.int (x.2.1 3 i.toNatClampNeg) :: rest))) : W p l e R s m args below meth c H locs cells slots Q (F0 m pc ls (.int i :: .ref (L (.inr (0, 3, 0))) :: rest)) := m_iald X hw (i := .inr (0, 3, 0)) rfl hin hdg kk
theorem r_ast3 {i v : Int32} (X : mX Γ p m c cc nL s args RX10 A) (hw : mW Γ.1 vwCl A L (rM Γ L x) H) (hS : va_S A s.heap H locs) (hin : vp_in i 320) (hdg : decode cc pc = .ok (.iastore, 1)) (kk : ∀ (H1 : Heap) (locs1 : List Loc), mW Γ.1 vwCl A L (rM Γ L (sA x 3 i.toNatClampNeg v)) H1 → va_S A s.heap H1 locs1 → W p l e R s m args below meth c H1 locs1 cells slots Q (F0 m (pc + 1) ls rest)) : W p l e R s m args below meth c H locs cells slots Q (F0 m pc ls (.int v :: .int i :: .ref (L (.inr (0, 3, 0))) :: rest)) := m_iast X hw hS (i := .inr (0, 3, 0)) rfl hin hdg (fun H1 locs1 h1 h2 => kk H1 locs1 (by have e := rU_3 Γ x i.toNatClampNeg v; show mW Γ.1 vwCl A L ([.inr (8, rF L x)], [rA Γ (sA x 3 i.toNatClampNeg v)]) H1; rw [← e]; exact h1) h2)
theorem r_get4 (X : mX Γ p m c cc nL s args RX10 A) (hw : mW Γ.1 vwCl A L (rM Γ L x) H) (hdg : decode cc pc = .ok (.getfield 19, 3)) (kk : W p l e R s m args below meth c H locs cells slots Q (F0 m (pc + 3) ls (.ref (L (.inr (0, 4, 0))) :: rest))) : W p l e R s m args below meth c H locs cells slots Q (F0 m pc ls (.ref (L (.inl 0)) :: rest)) := m_get X hw (i := .inl 0) (ci := 8) rfl rfl gX10 4 (by decide) fl_X10_19 rfl rfl hdg kk
theorem r_ald4 {i : Int32} (X : mX Γ p m c cc nL s args RX10 A) (hw : mW Γ.1 vwCl A L (rM Γ L x) H) (hin : vp_in i 320) (hdg : decode cc pc = .ok (.laload, 1)) (kk : W p l e R s m args below meth c H locs cells slots Q (F0 m (pc + 1) ls (.long (x.2.2 4 i.toNatClampNeg) :: rest))) : W p l e R s m args below meth c H locs cells slots Q (F0 m pc ls (.int i :: .ref (L (.inr (0, 4, 0))) :: rest)) := m_lald X hw (i := .inr (0, 4, 0)) rfl hin hdg kk
theorem r_ast4 {i : Int32} {v : Int64} (X : mX Γ p m c cc nL s args RX10 A) (hw : mW Γ.1 vwCl A L (rM Γ L x) H) (hS : va_S A s.heap H locs) (hin : vp_in i 320) (hdg : decode cc pc = .ok (.lastore, 1)) (kk : ∀ (H1 : Heap) (locs1 : List Loc), mW Γ.1 vwCl A L (rM Γ L (sJ x 4 i.toNatClampNeg v)) H1 → va_S A s.heap H1 locs1 → W p l e R s m args below meth c H1 locs1 cells slots Q (F0 m (pc + 1) ls rest)) : W p l e R s m args below meth c H locs cells slots Q (F0 m pc ls (.long v :: .int i :: .ref (L (.inr (0, 4, 0))) :: rest)) := m_last X hw hS (i := .inr (0, 4, 0)) rfl hin hdg (fun H1 locs1 h1 h2 => kk H1 locs1 (by have e := rU_4 Γ x i.toNatClampNeg v; show mW Γ.1 vwCl A L ([.inr (8, rF L x)], [rA Γ (sJ x 4 i.toNatClampNeg v)]) H1; rw [← e]; exact h1) h2)
theorem r_get5 (X : mX Γ p m c cc nL s args RX10 A) (hw : mW Γ.1 vwCl A L (rM Γ L x) H) (hdg : decode cc pc = .ok (.getfield 23, 3)) (kk : W p l e R s m args below meth c H locs cells slots Q (F0 m (pc + 3) ls (.ref (L (.inr (0, 5, 0))) :: rest))) : W p l e R s m args below meth c H locs cells slots Q (F0 m pc ls (.ref (L (.inl 0)) :: rest)) := m_get X hw (i := .inl 0) (ci := 8) rfl rfl gX10 5 (by decide) fl_X10_23 rfl rfl hdg kk
theorem r_ald5 {i : Int32} (X : mX Γ p m c cc nL s args RX10 A) (hw : mW Γ.1 vwCl A L (rM Γ L x) H) (hin : vp_in i 8) (hdg : decode cc pc = .ok (.iaload, 1)) (kk : W p l e R s m args below meth c H locs cells slots Q (F0 m (pc + 1) ls (.int (x.2.1 5 i.toNatClampNeg) :: rest))) : W p l e R s m args below meth c H locs cells slots Q (F0 m pc ls (.int i :: .ref (L (.inr (0, 5, 0))) :: rest)) := m_iald X hw (i := .inr (0, 5, 0)) rfl hin hdg kk
theorem r_ast5 {i v : Int32} (X : mX Γ p m c cc nL s args RX10 A) (hw : mW Γ.1 vwCl A L (rM Γ L x) H) (hS : va_S A s.heap H locs) (hin : vp_in i 8) (hdg : decode cc pc = .ok (.iastore, 1)) (kk : ∀ (H1 : Heap) (locs1 : List Loc), mW Γ.1 vwCl A L (rM Γ L (sA x 5 i.toNatClampNeg v)) H1 → va_S A s.heap H1 locs1 → W p l e R s m args below meth c H1 locs1 cells slots Q (F0 m (pc + 1) ls rest)) : W p l e R s m args below meth c H locs cells slots Q (F0 m pc ls (.int v :: .int i :: .ref (L (.inr (0, 5, 0))) :: rest)) := m_iast X hw hS (i := .inr (0, 5, 0)) rfl hin hdg (fun H1 locs1 h1 h2 => kk H1 locs1 (by have e := rU_5 Γ x i.toNatClampNeg v; show mW Γ.1 vwCl A L ([.inr (8, rF L x)], [rA Γ (sA x 5 i.toNatClampNeg v)]) H1; rw [← e]; exact h1) h2)
theorem r_get6 (X : mX Γ p m c cc nL s args RX10 A) (hw : mW Γ.1 vwCl A L (rM Γ L x) H) (hdg : decode cc pc = .ok (.getfield 26, 3)) (kk : W p l e R s m args below meth c H locs cells slots Q (F0 m (pc + 3) ls (.ref (L (.inr (0, 6, 0))) :: rest))) : W p l e R s m args below meth c H locs cells slots Q (F0 m pc ls (.ref (L (.inl 0)) :: rest)) := m_get X hw (i := .inl 0) (ci := 8) rfl rfl gX10 6 (by decide) fl_X10_26 rfl rfl hdg kk
theorem r_ald6 {i : Int32} (X : mX Γ p m c cc nL s args RX10 A) (hw : mW Γ.1 vwCl A L (rM Γ L x) H) (hin : vp_in i 192) (hdg : decode cc pc = .ok (.iaload, 1)) (kk : W p l e R s m args below meth c H locs cells slots Q (F0 m (pc + 1) ls (.int (x.2.1 6 i.toNatClampNeg) :: rest))) : W p l e R s m args below meth c H locs cells slots Q (F0 m pc ls (.int i :: .ref (L (.inr (0, 6, 0))) :: rest)) := m_iald X hw (i := .inr (0, 6, 0)) rfl hin hdg kk
theorem r_ast6 {i v : Int32} (X : mX Γ p m c cc nL s args RX10 A) (hw : mW Γ.1 vwCl A L (rM Γ L x) H) (hS : va_S A s.heap H locs) (hin : vp_in i 192) (hdg : decode cc pc = .ok (.iastore, 1)) (kk : ∀ (H1 : Heap) (locs1 : List Loc), mW Γ.1 vwCl A L (rM Γ L (sA x 6 i.toNatClampNeg v)) H1 → va_S A s.heap H1 locs1 → W p l e R s m args below meth c H1 locs1 cells slots Q (F0 m (pc + 1) ls rest)) : W p l e R s m args below meth c H locs cells slots Q (F0 m pc ls (.int v :: .int i :: .ref (L (.inr (0, 6, 0))) :: rest)) := m_iast X hw hS (i := .inr (0, 6, 0)) rfl hin hdg (fun H1 locs1 h1 h2 => kk H1 locs1 (by have e := rU_6 Γ x i.toNatClampNeg v; show mW Γ.1 vwCl A L ([.inr (8, rF L x)], [rA Γ (sA x 6 i.toNatClampNeg v)]) H1; rw [← e]; exact h1) h2)
theorem r_get7 (X : mX Γ p m c cc nL s args RX10 A) (hw : mW Γ.1 vwCl A L (rM Γ L x) H) (hdg : decode cc pc = .ok (.getfield 29, 3)) (kk : W p l e R s m args below meth c H locs cells slots Q (F0 m (pc + 3) ls (.ref (L (.inr (0, 7, 0))) :: rest))) : W p l e R s m args below meth c H locs cells slots Q (F0 m pc ls (.ref (L (.inl 0)) :: rest)) := m_get X hw (i := .inl 0) (ci := 8) rfl rfl gX10 7 (by decide) fl_X10_29 rfl rfl hdg kk
theorem r_ald7 {i : Int32} (X : mX Γ p m c cc nL s args RX10 A) (hw : mW Γ.1 vwCl A L (rM Γ L x) H) (hin : vp_in i 320) (hdg : decode cc pc = .ok (.iaload, 1)) (kk : W p l e R s m args below meth c H locs cells slots Q (F0 m (pc + 1) ls (.int (x.2.1 7 i.toNatClampNeg) :: rest))) : W p l e R s m args below meth c H locs cells slots Q (F0 m pc ls (.int i :: .ref (L (.inr (0, 7, 0))) :: rest)) := m_iald X hw (i := .inr (0, 7, 0)) rfl hin hdg kk
theorem r_ast7 {i v : Int32} (X : mX Γ p m c cc nL s args RX10 A) (hw : mW Γ.1 vwCl A L (rM Γ L x) H) (hS : va_S A s.heap H locs) (hin : vp_in i 320) (hdg : decode cc pc = .ok (.iastore, 1)) (kk : ∀ (H1 : Heap) (locs1 : List Loc), mW Γ.1 vwCl A L (rM Γ L (sA x 7 i.toNatClampNeg v)) H1 → va_S A s.heap H1 locs1 → W p l e R s m args below meth c H1 locs1 cells slots Q (F0 m (pc + 1) ls rest)) : W p l e R s m args below meth c H locs cells slots Q (F0 m pc ls (.int v :: .int i :: .ref (L (.inr (0, 7, 0))) :: rest)) := m_iast X hw hS (i := .inr (0, 7, 0)) rfl hin hdg (fun H1 locs1 h1 h2 => kk H1 locs1 (by have e := rU_7 Γ x i.toNatClampNeg v; show mW Γ.1 vwCl A L ([.inr (8, rF L x)], [rA Γ (sA x 7 i.toNatClampNeg v)]) H1; rw [← e]; exact h1) h2)
theorem r_get8 (X : mX Γ p m c cc nL s args RX10 A) (hw : mW Γ.1 vwCl A L (rM Γ L x) H) (hdg : decode cc pc = .ok (.getfield 32, 3)) (kk : W p l e R s m args below meth c H locs cells slots Q (F0 m (pc + 3) ls (.ref (L (.inr (0, 8, 0))) :: rest))) : W p l e R s m args below meth c H locs cells slots Q (F0 m pc ls (.ref (L (.inl 0)) :: rest)) := m_get X hw (i := .inl 0) (ci := 8) rfl rfl gX10 8 (by decide) fl_X10_32 rfl rfl hdg kk
theorem r_ald8 {i : Int32} (X : mX Γ p m c cc nL s args RX10 A) (hw : mW Γ.1 vwCl A L (rM Γ L x) H) (hin : vp_in i 5120) (hdg : decode cc pc = .ok (.iaload, 1)) (kk : W p l e R s m args below meth c H locs cells slots Q (F0 m (pc + 1) ls (.int (x.2.1 8 i.toNatClampNeg) :: rest))) : W p l e R s m args below meth c H locs cells slots Q (F0 m pc ls (.int i :: .ref (L (.inr (0, 8, 0))) :: rest)) := m_iald X hw (i := .inr (0, 8, 0)) rfl hin hdg kk
theorem r_ast8 {i v : Int32} (X : mX Γ p m c cc nL s args RX10 A) (hw : mW Γ.1 vwCl A L (rM Γ L x) H) (hS : va_S A s.heap H locs) (hin : vp_in i 5120) (hdg : decode cc pc = .ok (.iastore, 1)) (kk : ∀ (H1 : Heap) (locs1 : List Loc), mW Γ.1 vwCl A L (rM Γ L (sA x 8 i.toNatClampNeg v)) H1 → va_S A s.heap H1 locs1 → W p l e R s m args below meth c H1 locs1 cells slots Q (F0 m (pc + 1) ls rest)) : W p l e R s m args below meth c H locs cells slots Q (F0 m pc ls (.int v :: .int i :: .ref (L (.inr (0, 8, 0))) :: rest)) := m_iast X hw hS (i := .inr (0, 8, 0)) rfl hin hdg (fun H1 locs1 h1 h2 => kk H1 locs1 (by have e := rU_8 Γ x i.toNatClampNeg v; show mW Γ.1 vwCl A L ([.inr (8, rF L x)], [rA Γ (sA x 8 i.toNatClampNeg v)]) H1; rw [← e]; exact h1) h2)
theorem r_get9 (X : mX Γ p m c cc nL s args RX10 A) (hw : mW Γ.1 vwCl A L (rM Γ L x) H) (hdg : decode cc pc = .ok (.getfield 35, 3)) (kk : W p l e R s m args below meth c H locs cells slots Q (F0 m (pc + 3) ls (.ref (L (.inr (0, 9, 0))) :: rest))) : W p l e R s m args below meth c H locs cells slots Q (F0 m pc ls (.ref (L (.inl 0)) :: rest)) := m_get X hw (i := .inl 0) (ci := 8) rfl rfl gX10 9 (by decide) fl_X10_35 rfl rfl hdg kk
theorem r_ald9 {i : Int32} (X : mX Γ p m c cc nL s args RX10 A) (hw : mW Γ.1 vwCl A L (rM Γ L x) H) (hin : vp_in i 8) (hdg : decode cc pc = .ok (.baload, 1)) (kk : W p l e R s m args below meth c H locs cells slots Q (F0 m (pc + 1) ls (.int (x.2.1 9 i.toNatClampNeg) :: rest))) : W p l e R s m args below meth c H locs cells slots Q (F0 m pc ls (.int i :: .ref (L (.inr (0, 9, 0))) :: rest)) := m_zald X hw (i := .inr (0, 9, 0)) rfl hin hdg kk
theorem r_ast9 {i v : Int32} (X : mX Γ p m c cc nL s args RX10 A) (hw : mW Γ.1 vwCl A L (rM Γ L x) H) (hS : va_S A s.heap H locs) (hin : vp_in i 8) (hdg : decode cc pc = .ok (.bastore, 1)) (kk : ∀ (H1 : Heap) (locs1 : List Loc), mW Γ.1 vwCl A L (rM Γ L (sA x 9 i.toNatClampNeg (vp_nar .boolean v))) H1 → va_S A s.heap H1 locs1 → W p l e R s m args below meth c H1 locs1 cells slots Q (F0 m (pc + 1) ls rest)) : W p l e R s m args below meth c H locs cells slots Q (F0 m pc ls (.int v :: .int i :: .ref (L (.inr (0, 9, 0))) :: rest)) := m_zast X hw hS (i := .inr (0, 9, 0)) rfl hin hdg (fun H1 locs1 h1 h2 => kk H1 locs1 (by have e := rU_9 Γ x i.toNatClampNeg (vp_nar .boolean v); show mW Γ.1 vwCl A L ([.inr (8, rF L x)], [rA Γ (sA x 9 i.toNatClampNeg (vp_nar .boolean v))]) H1; rw [← e]; exact h1) h2)
theorem r_get11 (X : mX Γ p m c cc nL s args RX10 A) (hw : mW Γ.1 vwCl A L (rM Γ L x) H) (hdg : decode cc pc = .ok (.getfield 39, 3)) (kk : W p l e R s m args below meth c H locs cells slots Q (F0 m (pc + 3) ls (.ref (L (.inr (0, 11, 0))) :: rest))) : W p l e R s m args below meth c H locs cells slots Q (F0 m pc ls (.ref (L (.inl 0)) :: rest)) := m_get X hw (i := .inl 0) (ci := 8) rfl rfl gX10 11 (by decide) fl_X10_39 rfl rfl hdg kk
theorem r_ald11 {i : Int32} (X : mX Γ p m c cc nL s args RX10 A) (hw : mW Γ.1 vwCl A L (rM Γ L x) H) (hin : vp_in i 40) (hdg : decode cc pc = .ok (.iaload, 1)) (kk : W p l e R s m args below meth c H locs cells slots Q (F0 m (pc + 1) ls (.int (x.2.1 11 i.toNatClampNeg) :: rest))) : W p l e R s m args below meth c H locs cells slots Q (F0 m pc ls (.int i :: .ref (L (.inr (0, 11, 0))) :: rest)) := m_iald X hw (i := .inr (0, 11, 0)) rfl hin hdg kk
theorem r_ast11 {i v : Int32} (X : mX Γ p m c cc nL s args RX10 A) (hw : mW Γ.1 vwCl A L (rM Γ L x) H) (hS : va_S A s.heap H locs) (hin : vp_in i 40) (hdg : decode cc pc = .ok (.iastore, 1)) (kk : ∀ (H1 : Heap) (locs1 : List Loc), mW Γ.1 vwCl A L (rM Γ L (sA x 11 i.toNatClampNeg v)) H1 → va_S A s.heap H1 locs1 → W p l e R s m args below meth c H1 locs1 cells slots Q (F0 m (pc + 1) ls rest)) : W p l e R s m args below meth c H locs cells slots Q (F0 m pc ls (.int v :: .int i :: .ref (L (.inr (0, 11, 0))) :: rest)) := m_iast X hw hS (i := .inr (0, 11, 0)) rfl hin hdg (fun H1 locs1 h1 h2 => kk H1 locs1 (by have e := rU_11 Γ x i.toNatClampNeg v; show mW Γ.1 vwCl A L ([.inr (8, rF L x)], [rA Γ (sA x 11 i.toNatClampNeg v)]) H1; rw [← e]; exact h1) h2)
theorem r_get12 (X : mX Γ p m c cc nL s args RX10 A) (hw : mW Γ.1 vwCl A L (rM Γ L x) H) (hdg : decode cc pc = .ok (.getfield 42, 3)) (kk : W p l e R s m args below meth c H locs cells slots Q (F0 m (pc + 3) ls (.ref (L (.inr (0, 12, 0))) :: rest))) : W p l e R s m args below meth c H locs cells slots Q (F0 m pc ls (.ref (L (.inl 0)) :: rest)) := m_get X hw (i := .inl 0) (ci := 8) rfl rfl gX10 12 (by decide) fl_X10_42 rfl rfl hdg kk
theorem r_ald12 {i : Int32} (X : mX Γ p m c cc nL s args RX10 A) (hw : mW Γ.1 vwCl A L (rM Γ L x) H) (hin : vp_in i 640) (hdg : decode cc pc = .ok (.iaload, 1)) (kk : W p l e R s m args below meth c H locs cells slots Q (F0 m (pc + 1) ls (.int (x.2.1 12 i.toNatClampNeg) :: rest))) : W p l e R s m args below meth c H locs cells slots Q (F0 m pc ls (.int i :: .ref (L (.inr (0, 12, 0))) :: rest)) := m_iald X hw (i := .inr (0, 12, 0)) rfl hin hdg kk
theorem r_ast12 {i v : Int32} (X : mX Γ p m c cc nL s args RX10 A) (hw : mW Γ.1 vwCl A L (rM Γ L x) H) (hS : va_S A s.heap H locs) (hin : vp_in i 640) (hdg : decode cc pc = .ok (.iastore, 1)) (kk : ∀ (H1 : Heap) (locs1 : List Loc), mW Γ.1 vwCl A L (rM Γ L (sA x 12 i.toNatClampNeg v)) H1 → va_S A s.heap H1 locs1 → W p l e R s m args below meth c H1 locs1 cells slots Q (F0 m (pc + 1) ls rest)) : W p l e R s m args below meth c H locs cells slots Q (F0 m pc ls (.int v :: .int i :: .ref (L (.inr (0, 12, 0))) :: rest)) := m_iast X hw hS (i := .inr (0, 12, 0)) rfl hin hdg (fun H1 locs1 h1 h2 => kk H1 locs1 (by have e := rU_12 Γ x i.toNatClampNeg v; show mW Γ.1 vwCl A L ([.inr (8, rF L x)], [rA Γ (sA x 12 i.toNatClampNeg v)]) H1; rw [← e]; exact h1) h2)
theorem r_get13 (X : mX Γ p m c cc nL s args RX10 A) (hw : mW Γ.1 vwCl A L (rM Γ L x) H) (hdg : decode cc pc = .ok (.getfield 225, 3)) (kk : W p l e R s m args below meth c H locs cells slots Q (F0 m (pc + 3) ls (.int (x.1 13) :: rest))) : W p l e R s m args below meth c H locs cells slots Q (F0 m pc ls (.ref (L (.inl 0)) :: rest)) := m_get X hw (i := .inl 0) (ci := 8) rfl rfl gX10 13 (by decide) fl_X10_225 rfl rfl hdg kk
theorem r_put13 {v : Int32} (X : mX Γ p m c cc nL s args RX10 A) (hw : mW Γ.1 vwCl A L (rM Γ L x) H) (hS : va_S A s.heap H locs) (hdg : decode cc pc = .ok (.putfield 225, 3)) (kk : ∀ (H1 : Heap) (locs1 : List Loc), mW Γ.1 vwCl A L (rM Γ L (sS x 13 v)) H1 → va_S A s.heap H1 locs1 → W p l e R s m args below meth c H1 locs1 cells slots Q (F0 m (pc + 3) ls rest)) : W p l e R s m args below meth c H locs cells slots Q (F0 m pc ls (.int v :: .ref (L (.inl 0)) :: rest)) := m_put X hw hS (i := .inl 0) (ci := 8) (ty := .int) rfl rfl gX10 tyX10 tyX10_ok nmX10 13 (by decide) fl_X10_225 rfl rfl rfl rfl rfl (show 13 < 35 by decide) hdg kk
theorem r_get14 (X : mX Γ p m c cc nL s args RX10 A) (hw : mW Γ.1 vwCl A L (rM Γ L x) H) (hdg : decode cc pc = .ok (.getfield 45, 3)) (kk : W p l e R s m args below meth c H locs cells slots Q (F0 m (pc + 3) ls (.ref (L (.inr (0, 14, 0))) :: rest))) : W p l e R s m args below meth c H locs cells slots Q (F0 m pc ls (.ref (L (.inl 0)) :: rest)) := m_get X hw (i := .inl 0) (ci := 8) rfl rfl gX10 14 (by decide) fl_X10_45 rfl rfl hdg kk
theorem r_ald14 {i : Int32} (X : mX Γ p m c cc nL s args RX10 A) (hw : mW Γ.1 vwCl A L (rM Γ L x) H) (hin : vp_in i 16) (hdg : decode cc pc = .ok (.iaload, 1)) (kk : W p l e R s m args below meth c H locs cells slots Q (F0 m (pc + 1) ls (.int (x.2.1 14 i.toNatClampNeg) :: rest))) : W p l e R s m args below meth c H locs cells slots Q (F0 m pc ls (.int i :: .ref (L (.inr (0, 14, 0))) :: rest)) := m_iald X hw (i := .inr (0, 14, 0)) rfl hin hdg kk
theorem r_ast14 {i v : Int32} (X : mX Γ p m c cc nL s args RX10 A) (hw : mW Γ.1 vwCl A L (rM Γ L x) H) (hS : va_S A s.heap H locs) (hin : vp_in i 16) (hdg : decode cc pc = .ok (.iastore, 1)) (kk : ∀ (H1 : Heap) (locs1 : List Loc), mW Γ.1 vwCl A L (rM Γ L (sA x 14 i.toNatClampNeg v)) H1 → va_S A s.heap H1 locs1 → W p l e R s m args below meth c H1 locs1 cells slots Q (F0 m (pc + 1) ls rest)) : W p l e R s m args below meth c H locs cells slots Q (F0 m pc ls (.int v :: .int i :: .ref (L (.inr (0, 14, 0))) :: rest)) := m_iast X hw hS (i := .inr (0, 14, 0)) rfl hin hdg (fun H1 locs1 h1 h2 => kk H1 locs1 (by have e := rU_14 Γ x i.toNatClampNeg v; show mW Γ.1 vwCl A L ([.inr (8, rF L x)], [rA Γ (sA x 14 i.toNatClampNeg v)]) H1; rw [← e]; exact h1) h2)
theorem r_get15 (X : mX Γ p m c cc nL s args RX10 A) (hw : mW Γ.1 vwCl A L (rM Γ L x) H) (hdg : decode cc pc = .ok (.getfield 145, 3)) (kk : W p l e R s m args below meth c H locs cells slots Q (F0 m (pc + 3) ls (.int (x.1 15) :: rest))) : W p l e R s m args below meth c H locs cells slots Q (F0 m pc ls (.ref (L (.inl 0)) :: rest)) := m_get X hw (i := .inl 0) (ci := 8) rfl rfl gX10 15 (by decide) fl_X10_145 rfl rfl hdg kk
theorem r_put15 {v : Int32} (X : mX Γ p m c cc nL s args RX10 A) (hw : mW Γ.1 vwCl A L (rM Γ L x) H) (hS : va_S A s.heap H locs) (hdg : decode cc pc = .ok (.putfield 145, 3)) (kk : ∀ (H1 : Heap) (locs1 : List Loc), mW Γ.1 vwCl A L (rM Γ L (sS x 15 v)) H1 → va_S A s.heap H1 locs1 → W p l e R s m args below meth c H1 locs1 cells slots Q (F0 m (pc + 3) ls rest)) : W p l e R s m args below meth c H locs cells slots Q (F0 m pc ls (.int v :: .ref (L (.inl 0)) :: rest)) := m_put X hw hS (i := .inl 0) (ci := 8) (ty := .int) rfl rfl gX10 tyX10 tyX10_ok nmX10 15 (by decide) fl_X10_145 rfl rfl rfl rfl rfl (show 15 < 35 by decide) hdg kk
theorem r_get16 (X : mX Γ p m c cc nL s args RX10 A) (hw : mW Γ.1 vwCl A L (rM Γ L x) H) (hdg : decode cc pc = .ok (.getfield 212, 3)) (kk : W p l e R s m args below meth c H locs cells slots Q (F0 m (pc + 3) ls (.int (x.1 16) :: rest))) : W p l e R s m args below meth c H locs cells slots Q (F0 m pc ls (.ref (L (.inl 0)) :: rest)) := m_get X hw (i := .inl 0) (ci := 8) rfl rfl gX10 16 (by decide) fl_X10_212 rfl rfl hdg kk
theorem r_put16 {v : Int32} (X : mX Γ p m c cc nL s args RX10 A) (hw : mW Γ.1 vwCl A L (rM Γ L x) H) (hS : va_S A s.heap H locs) (hn : narrow .boolean (.int v) = .int v) (hf : fits .boolean (.int v) = true) (hdg : decode cc pc = .ok (.putfield 212, 3)) (kk : ∀ (H1 : Heap) (locs1 : List Loc), mW Γ.1 vwCl A L (rM Γ L (sS x 16 v)) H1 → va_S A s.heap H1 locs1 → W p l e R s m args below meth c H1 locs1 cells slots Q (F0 m (pc + 3) ls rest)) : W p l e R s m args below meth c H locs cells slots Q (F0 m pc ls (.int v :: .ref (L (.inl 0)) :: rest)) := m_put X hw hS (i := .inl 0) (ci := 8) (ty := .boolean) rfl rfl gX10 tyX10 tyX10_ok nmX10 16 (by decide) fl_X10_212 rfl rfl rfl hn hf (show 16 < 35 by decide) hdg kk
theorem r_get17 (X : mX Γ p m c cc nL s args RX10 A) (hw : mW Γ.1 vwCl A L (rM Γ L x) H) (hdg : decode cc pc = .ok (.getfield 48, 3)) (kk : W p l e R s m args below meth c H locs cells slots Q (F0 m (pc + 3) ls (.ref (L (.inr (0, 17, 0))) :: rest))) : W p l e R s m args below meth c H locs cells slots Q (F0 m pc ls (.ref (L (.inl 0)) :: rest)) := m_get X hw (i := .inl 0) (ci := 8) rfl rfl gX10 17 (by decide) fl_X10_48 rfl rfl hdg kk
theorem r_ald17 {i : Int32} (X : mX Γ p m c cc nL s args RX10 A) (hw : mW Γ.1 vwCl A L (rM Γ L x) H) (hin : vp_in i 8) (hdg : decode cc pc = .ok (.iaload, 1)) (kk : W p l e R s m args below meth c H locs cells slots Q (F0 m (pc + 1) ls (.int (x.2.1 17 i.toNatClampNeg) :: rest))) : W p l e R s m args below meth c H locs cells slots Q (F0 m pc ls (.int i :: .ref (L (.inr (0, 17, 0))) :: rest)) := m_iald X hw (i := .inr (0, 17, 0)) rfl hin hdg kk
theorem r_ast17 {i v : Int32} (X : mX Γ p m c cc nL s args RX10 A) (hw : mW Γ.1 vwCl A L (rM Γ L x) H) (hS : va_S A s.heap H locs) (hin : vp_in i 8) (hdg : decode cc pc = .ok (.iastore, 1)) (kk : ∀ (H1 : Heap) (locs1 : List Loc), mW Γ.1 vwCl A L (rM Γ L (sA x 17 i.toNatClampNeg v)) H1 → va_S A s.heap H1 locs1 → W p l e R s m args below meth c H1 locs1 cells slots Q (F0 m (pc + 1) ls rest)) : W p l e R s m args below meth c H locs cells slots Q (F0 m pc ls (.int v :: .int i :: .ref (L (.inr (0, 17, 0))) :: rest)) := m_iast X hw hS (i := .inr (0, 17, 0)) rfl hin hdg (fun H1 locs1 h1 h2 => kk H1 locs1 (by have e := rU_17 Γ x i.toNatClampNeg v; show mW Γ.1 vwCl A L ([.inr (8, rF L x)], [rA Γ (sA x 17 i.toNatClampNeg v)]) H1; rw [← e]; exact h1) h2)
theorem r_get18 (X : mX Γ p m c cc nL s args RX10 A) (hw : mW Γ.1 vwCl A L (rM Γ L x) H) (hdg : decode cc pc = .ok (.getfield 51, 3)) (kk : W p l e R s m args below meth c H locs cells slots Q (F0 m (pc + 3) ls (.ref (L (.inr (0, 18, 0))) :: rest))) : W p l e R s m args below meth c H locs cells slots Q (F0 m pc ls (.ref (L (.inl 0)) :: rest)) := m_get X hw (i := .inl 0) (ci := 8) rfl rfl gX10 18 (by decide) fl_X10_51 rfl rfl hdg kk
theorem r_ald18 {i : Int32} (X : mX Γ p m c cc nL s args RX10 A) (hw : mW Γ.1 vwCl A L (rM Γ L x) H) (hin : vp_in i 128) (hdg : decode cc pc = .ok (.laload, 1)) (kk : W p l e R s m args below meth c H locs cells slots Q (F0 m (pc + 1) ls (.long (x.2.2 18 i.toNatClampNeg) :: rest))) : W p l e R s m args below meth c H locs cells slots Q (F0 m pc ls (.int i :: .ref (L (.inr (0, 18, 0))) :: rest)) := m_lald X hw (i := .inr (0, 18, 0)) rfl hin hdg kk
theorem r_ast18 {i : Int32} {v : Int64} (X : mX Γ p m c cc nL s args RX10 A) (hw : mW Γ.1 vwCl A L (rM Γ L x) H) (hS : va_S A s.heap H locs) (hin : vp_in i 128) (hdg : decode cc pc = .ok (.lastore, 1)) (kk : ∀ (H1 : Heap) (locs1 : List Loc), mW Γ.1 vwCl A L (rM Γ L (sJ x 18 i.toNatClampNeg v)) H1 → va_S A s.heap H1 locs1 → W p l e R s m args below meth c H1 locs1 cells slots Q (F0 m (pc + 1) ls rest)) : W p l e R s m args below meth c H locs cells slots Q (F0 m pc ls (.long v :: .int i :: .ref (L (.inr (0, 18, 0))) :: rest)) := m_last X hw hS (i := .inr (0, 18, 0)) rfl hin hdg (fun H1 locs1 h1 h2 => kk H1 locs1 (by have e := rU_18 Γ x i.toNatClampNeg v; show mW Γ.1 vwCl A L ([.inr (8, rF L x)], [rA Γ (sJ x 18 i.toNatClampNeg v)]) H1; rw [← e]; exact h1) h2)
theorem r_get19 (X : mX Γ p m c cc nL s args RX10 A) (hw : mW Γ.1 vwCl A L (rM Γ L x) H) (hdg : decode cc pc = .ok (.getfield 54, 3)) (kk : W p l e R s m args below meth c H locs cells slots Q (F0 m (pc + 3) ls (.ref (L (.inr (0, 19, 0))) :: rest))) : W p l e R s m args below meth c H locs cells slots Q (F0 m pc ls (.ref (L (.inl 0)) :: rest)) := m_get X hw (i := .inl 0) (ci := 8) rfl rfl gX10 19 (by decide) fl_X10_54 rfl rfl hdg kk
theorem r_ald19 {i : Int32} (X : mX Γ p m c cc nL s args RX10 A) (hw : mW Γ.1 vwCl A L (rM Γ L x) H) (hin : vp_in i 8) (hdg : decode cc pc = .ok (.iaload, 1)) (kk : W p l e R s m args below meth c H locs cells slots Q (F0 m (pc + 1) ls (.int (x.2.1 19 i.toNatClampNeg) :: rest))) : W p l e R s m args below meth c H locs cells slots Q (F0 m pc ls (.int i :: .ref (L (.inr (0, 19, 0))) :: rest)) := m_iald X hw (i := .inr (0, 19, 0)) rfl hin hdg kk
theorem r_ast19 {i v : Int32} (X : mX Γ p m c cc nL s args RX10 A) (hw : mW Γ.1 vwCl A L (rM Γ L x) H) (hS : va_S A s.heap H locs) (hin : vp_in i 8) (hdg : decode cc pc = .ok (.iastore, 1)) (kk : ∀ (H1 : Heap) (locs1 : List Loc), mW Γ.1 vwCl A L (rM Γ L (sA x 19 i.toNatClampNeg v)) H1 → va_S A s.heap H1 locs1 → W p l e R s m args below meth c H1 locs1 cells slots Q (F0 m (pc + 1) ls rest)) : W p l e R s m args below meth c H locs cells slots Q (F0 m pc ls (.int v :: .int i :: .ref (L (.inr (0, 19, 0))) :: rest)) := m_iast X hw hS (i := .inr (0, 19, 0)) rfl hin hdg (fun H1 locs1 h1 h2 => kk H1 locs1 (by have e := rU_19 Γ x i.toNatClampNeg v; show mW Γ.1 vwCl A L ([.inr (8, rF L x)], [rA Γ (sA x 19 i.toNatClampNeg v)]) H1; rw [← e]; exact h1) h2)
theorem r_get20 (X : mX Γ p m c cc nL s args RX10 A) (hw : mW Γ.1 vwCl A L (rM Γ L x) H) (hdg : decode cc pc = .ok (.getfield 57, 3)) (kk : W p l e R s m args below meth c H locs cells slots Q (F0 m (pc + 3) ls (.ref (L (.inr (0, 20, 0))) :: rest))) : W p l e R s m args below meth c H locs cells slots Q (F0 m pc ls (.ref (L (.inl 0)) :: rest)) := m_get X hw (i := .inl 0) (ci := 8) rfl rfl gX10 20 (by decide) fl_X10_57 rfl rfl hdg kk
theorem r_ald20 {i : Int32} (X : mX Γ p m c cc nL s args RX10 A) (hw : mW Γ.1 vwCl A L (rM Γ L x) H) (hin : vp_in i 8) (hdg : decode cc pc = .ok (.iaload, 1)) (kk : W p l e R s m args below meth c H locs cells slots Q (F0 m (pc + 1) ls (.int (x.2.1 20 i.toNatClampNeg) :: rest))) : W p l e R s m args below meth c H locs cells slots Q (F0 m pc ls (.int i :: .ref (L (.inr (0, 20, 0))) :: rest)) := m_iald X hw (i := .inr (0, 20, 0)) rfl hin hdg kk
theorem r_ast20 {i v : Int32} (X : mX Γ p m c cc nL s args RX10 A) (hw : mW Γ.1 vwCl A L (rM Γ L x) H) (hS : va_S A s.heap H locs) (hin : vp_in i 8) (hdg : decode cc pc = .ok (.iastore, 1)) (kk : ∀ (H1 : Heap) (locs1 : List Loc), mW Γ.1 vwCl A L (rM Γ L (sA x 20 i.toNatClampNeg v)) H1 → va_S A s.heap H1 locs1 → W p l e R s m args below meth c H1 locs1 cells slots Q (F0 m (pc + 1) ls rest)) : W p l e R s m args below meth c H locs cells slots Q (F0 m pc ls (.int v :: .int i :: .ref (L (.inr (0, 20, 0))) :: rest)) := m_iast X hw hS (i := .inr (0, 20, 0)) rfl hin hdg (fun H1 locs1 h1 h2 => kk H1 locs1 (by have e := rU_20 Γ x i.toNatClampNeg v; show mW Γ.1 vwCl A L ([.inr (8, rF L x)], [rA Γ (sA x 20 i.toNatClampNeg v)]) H1; rw [← e]; exact h1) h2)
theorem r_get21 (X : mX Γ p m c cc nL s args RX10 A) (hw : mW Γ.1 vwCl A L (rM Γ L x) H) (hdg : decode cc pc = .ok (.getfield 60, 3)) (kk : W p l e R s m args below meth c H locs cells slots Q (F0 m (pc + 3) ls (.ref (L (.inr (0, 21, 0))) :: rest))) : W p l e R s m args below meth c H locs cells slots Q (F0 m pc ls (.ref (L (.inl 0)) :: rest)) := m_get X hw (i := .inl 0) (ci := 8) rfl rfl gX10 21 (by decide) fl_X10_60 rfl rfl hdg kk
theorem r_ald21 {i : Int32} (X : mX Γ p m c cc nL s args RX10 A) (hw : mW Γ.1 vwCl A L (rM Γ L x) H) (hin : vp_in i 8) (hdg : decode cc pc = .ok (.iaload, 1)) (kk : W p l e R s m args below meth c H locs cells slots Q (F0 m (pc + 1) ls (.int (x.2.1 21 i.toNatClampNeg) :: rest))) : W p l e R s m args below meth c H locs cells slots Q (F0 m pc ls (.int i :: .ref (L (.inr (0, 21, 0))) :: rest)) := m_iald X hw (i := .inr (0, 21, 0)) rfl hin hdg kk
theorem r_ast21 {i v : Int32} (X : mX Γ p m c cc nL s args RX10 A) (hw : mW Γ.1 vwCl A L (rM Γ L x) H) (hS : va_S A s.heap H locs) (hin : vp_in i 8) (hdg : decode cc pc = .ok (.iastore, 1)) (kk : ∀ (H1 : Heap) (locs1 : List Loc), mW Γ.1 vwCl A L (rM Γ L (sA x 21 i.toNatClampNeg v)) H1 → va_S A s.heap H1 locs1 → W p l e R s m args below meth c H1 locs1 cells slots Q (F0 m (pc + 1) ls rest)) : W p l e R s m args below meth c H locs cells slots Q (F0 m pc ls (.int v :: .int i :: .ref (L (.inr (0, 21, 0))) :: rest)) := m_iast X hw hS (i := .inr (0, 21, 0)) rfl hin hdg (fun H1 locs1 h1 h2 => kk H1 locs1 (by have e := rU_21 Γ x i.toNatClampNeg v; show mW Γ.1 vwCl A L ([.inr (8, rF L x)], [rA Γ (sA x 21 i.toNatClampNeg v)]) H1; rw [← e]; exact h1) h2)
theorem r_get22 (X : mX Γ p m c cc nL s args RX10 A) (hw : mW Γ.1 vwCl A L (rM Γ L x) H) (hdg : decode cc pc = .ok (.getfield 235, 3)) (kk : W p l e R s m args below meth c H locs cells slots Q (F0 m (pc + 3) ls (.int (x.1 22) :: rest))) : W p l e R s m args below meth c H locs cells slots Q (F0 m pc ls (.ref (L (.inl 0)) :: rest)) := m_get X hw (i := .inl 0) (ci := 8) rfl rfl gX10 22 (by decide) fl_X10_235 rfl rfl hdg kk
theorem r_put22 {v : Int32} (X : mX Γ p m c cc nL s args RX10 A) (hw : mW Γ.1 vwCl A L (rM Γ L x) H) (hS : va_S A s.heap H locs) (hdg : decode cc pc = .ok (.putfield 235, 3)) (kk : ∀ (H1 : Heap) (locs1 : List Loc), mW Γ.1 vwCl A L (rM Γ L (sS x 22 v)) H1 → va_S A s.heap H1 locs1 → W p l e R s m args below meth c H1 locs1 cells slots Q (F0 m (pc + 3) ls rest)) : W p l e R s m args below meth c H locs cells slots Q (F0 m pc ls (.int v :: .ref (L (.inl 0)) :: rest)) := m_put X hw hS (i := .inl 0) (ci := 8) (ty := .int) rfl rfl gX10 tyX10 tyX10_ok nmX10 22 (by decide) fl_X10_235 rfl rfl rfl rfl rfl (show 22 < 35 by decide) hdg kk
theorem r_get23 (X : mX Γ p m c cc nL s args RX10 A) (hw : mW Γ.1 vwCl A L (rM Γ L x) H) (hdg : decode cc pc = .ok (.getfield 248, 3)) (kk : W p l e R s m args below meth c H locs cells slots Q (F0 m (pc + 3) ls (.int (x.1 23) :: rest))) : W p l e R s m args below meth c H locs cells slots Q (F0 m pc ls (.ref (L (.inl 0)) :: rest)) := m_get X hw (i := .inl 0) (ci := 8) rfl rfl gX10 23 (by decide) fl_X10_248 rfl rfl hdg kk
theorem r_put23 {v : Int32} (X : mX Γ p m c cc nL s args RX10 A) (hw : mW Γ.1 vwCl A L (rM Γ L x) H) (hS : va_S A s.heap H locs) (hdg : decode cc pc = .ok (.putfield 248, 3)) (kk : ∀ (H1 : Heap) (locs1 : List Loc), mW Γ.1 vwCl A L (rM Γ L (sS x 23 v)) H1 → va_S A s.heap H1 locs1 → W p l e R s m args below meth c H1 locs1 cells slots Q (F0 m (pc + 3) ls rest)) : W p l e R s m args below meth c H locs cells slots Q (F0 m pc ls (.int v :: .ref (L (.inl 0)) :: rest)) := m_put X hw hS (i := .inl 0) (ci := 8) (ty := .int) rfl rfl gX10 tyX10 tyX10_ok nmX10 23 (by decide) fl_X10_248 rfl rfl rfl rfl rfl (show 23 < 35 by decide) hdg kk
theorem r_get24 (X : mX Γ p m c cc nL s args RX10 A) (hw : mW Γ.1 vwCl A L (rM Γ L x) H) (hdg : decode cc pc = .ok (.getfield 63, 3)) (kk : W p l e R s m args below meth c H locs cells slots Q (F0 m (pc + 3) ls (.ref (L (.inr (0, 24, 0))) :: rest))) : W p l e R s m args below meth c H locs cells slots Q (F0 m pc ls (.ref (L (.inl 0)) :: rest)) := m_get X hw (i := .inl 0) (ci := 8) rfl rfl gX10 24 (by decide) fl_X10_63 rfl rfl hdg kk
theorem r_ald24 {i : Int32} (X : mX Γ p m c cc nL s args RX10 A) (hw : mW Γ.1 vwCl A L (rM Γ L x) H) (hin : vp_in i 20) (hdg : decode cc pc = .ok (.iaload, 1)) (kk : W p l e R s m args below meth c H locs cells slots Q (F0 m (pc + 1) ls (.int (x.2.1 24 i.toNatClampNeg) :: rest))) : W p l e R s m args below meth c H locs cells slots Q (F0 m pc ls (.int i :: .ref (L (.inr (0, 24, 0))) :: rest)) := m_iald X hw (i := .inr (0, 24, 0)) rfl hin hdg kk
theorem r_ast24 {i v : Int32} (X : mX Γ p m c cc nL s args RX10 A) (hw : mW Γ.1 vwCl A L (rM Γ L x) H) (hS : va_S A s.heap H locs) (hin : vp_in i 20) (hdg : decode cc pc = .ok (.iastore, 1)) (kk : ∀ (H1 : Heap) (locs1 : List Loc), mW Γ.1 vwCl A L (rM Γ L (sA x 24 i.toNatClampNeg v)) H1 → va_S A s.heap H1 locs1 → W p l e R s m args below meth c H1 locs1 cells slots Q (F0 m (pc + 1) ls rest)) : W p l e R s m args below meth c H locs cells slots Q (F0 m pc ls (.int v :: .int i :: .ref (L (.inr (0, 24, 0))) :: rest)) := m_iast X hw hS (i := .inr (0, 24, 0)) rfl hin hdg (fun H1 locs1 h1 h2 => kk H1 locs1 (by have e := rU_24 Γ x i.toNatClampNeg v; show mW Γ.1 vwCl A L ([.inr (8, rF L x)], [rA Γ (sA x 24 i.toNatClampNeg v)]) H1; rw [← e]; exact h1) h2)
theorem r_get25 (X : mX Γ p m c cc nL s args RX10 A) (hw : mW Γ.1 vwCl A L (rM Γ L x) H) (hdg : decode cc pc = .ok (.getfield 66, 3)) (kk : W p l e R s m args below meth c H locs cells slots Q (F0 m (pc + 3) ls (.ref (L (.inr (0, 25, 0))) :: rest))) : W p l e R s m args below meth c H locs cells slots Q (F0 m pc ls (.ref (L (.inl 0)) :: rest)) := m_get X hw (i := .inl 0) (ci := 8) rfl rfl gX10 25 (by decide) fl_X10_66 rfl rfl hdg kk
theorem r_ald25 {i : Int32} (X : mX Γ p m c cc nL s args RX10 A) (hw : mW Γ.1 vwCl A L (rM Γ L x) H) (hin : vp_in i 20) (hdg : decode cc pc = .ok (.iaload, 1)) (kk : W p l e R s m args below meth c H locs cells slots Q (F0 m (pc + 1) ls (.int (x.2.1 25 i.toNatClampNeg) :: rest))) : W p l e R s m args below meth c H locs cells slots Q (F0 m pc ls (.int i :: .ref (L (.inr (0, 25, 0))) :: rest)) := m_iald X hw (i := .inr (0, 25, 0)) rfl hin hdg kk
theorem r_ast25 {i v : Int32} (X : mX Γ p m c cc nL s args RX10 A) (hw : mW Γ.1 vwCl A L (rM Γ L x) H) (hS : va_S A s.heap H locs) (hin : vp_in i 20) (hdg : decode cc pc = .ok (.iastore, 1)) (kk : ∀ (H1 : Heap) (locs1 : List Loc), mW Γ.1 vwCl A L (rM Γ L (sA x 25 i.toNatClampNeg v)) H1 → va_S A s.heap H1 locs1 → W p l e R s m args below meth c H1 locs1 cells slots Q (F0 m (pc + 1) ls rest)) : W p l e R s m args below meth c H locs cells slots Q (F0 m pc ls (.int v :: .int i :: .ref (L (.inr (0, 25, 0))) :: rest)) := m_iast X hw hS (i := .inr (0, 25, 0)) rfl hin hdg (fun H1 locs1 h1 h2 => kk H1 locs1 (by have e := rU_25 Γ x i.toNatClampNeg v; show mW Γ.1 vwCl A L ([.inr (8, rF L x)], [rA Γ (sA x 25 i.toNatClampNeg v)]) H1; rw [← e]; exact h1) h2)
theorem r_get26 (X : mX Γ p m c cc nL s args RX10 A) (hw : mW Γ.1 vwCl A L (rM Γ L x) H) (hdg : decode cc pc = .ok (.getfield 69, 3)) (kk : W p l e R s m args below meth c H locs cells slots Q (F0 m (pc + 3) ls (.ref (L (.inr (0, 26, 0))) :: rest))) : W p l e R s m args below meth c H locs cells slots Q (F0 m pc ls (.ref (L (.inl 0)) :: rest)) := m_get X hw (i := .inl 0) (ci := 8) rfl rfl gX10 26 (by decide) fl_X10_69 rfl rfl hdg kk
theorem r_ald26 {i : Int32} (X : mX Γ p m c cc nL s args RX10 A) (hw : mW Γ.1 vwCl A L (rM Γ L x) H) (hin : vp_in i 20) (hdg : decode cc pc = .ok (.iaload, 1)) (kk : W p l e R s m args below meth c H locs cells slots Q (F0 m (pc + 1) ls (.int (x.2.1 26 i.toNatClampNeg) :: rest))) : W p l e R s m args below meth c H locs cells slots Q (F0 m pc ls (.int i :: .ref (L (.inr (0, 26, 0))) :: rest)) := m_iald X hw (i := .inr (0, 26, 0)) rfl hin hdg kk
theorem r_ast26 {i v : Int32} (X : mX Γ p m c cc nL s args RX10 A) (hw : mW Γ.1 vwCl A L (rM Γ L x) H) (hS : va_S A s.heap H locs) (hin : vp_in i 20) (hdg : decode cc pc = .ok (.iastore, 1)) (kk : ∀ (H1 : Heap) (locs1 : List Loc), mW Γ.1 vwCl A L (rM Γ L (sA x 26 i.toNatClampNeg v)) H1 → va_S A s.heap H1 locs1 → W p l e R s m args below meth c H1 locs1 cells slots Q (F0 m (pc + 1) ls rest)) : W p l e R s m args below meth c H locs cells slots Q (F0 m pc ls (.int v :: .int i :: .ref (L (.inr (0, 26, 0))) :: rest)) := m_iast X hw hS (i := .inr (0, 26, 0)) rfl hin hdg (fun H1 locs1 h1 h2 => kk H1 locs1 (by have e := rU_26 Γ x i.toNatClampNeg v; show mW Γ.1 vwCl A L ([.inr (8, rF L x)], [rA Γ (sA x 26 i.toNatClampNeg v)]) H1; rw [← e]; exact h1) h2)
theorem r_get27 (X : mX Γ p m c cc nL s args RX10 A) (hw : mW Γ.1 vwCl A L (rM Γ L x) H) (hdg : decode cc pc = .ok (.getfield 72, 3)) (kk : W p l e R s m args below meth c H locs cells slots Q (F0 m (pc + 3) ls (.ref (L (.inr (0, 27, 0))) :: rest))) : W p l e R s m args below meth c H locs cells slots Q (F0 m pc ls (.ref (L (.inl 0)) :: rest)) := m_get X hw (i := .inl 0) (ci := 8) rfl rfl gX10 27 (by decide) fl_X10_72 rfl rfl hdg kk
theorem r_ald27 {i : Int32} (X : mX Γ p m c cc nL s args RX10 A) (hw : mW Γ.1 vwCl A L (rM Γ L x) H) (hin : vp_in i 600) (hdg : decode cc pc = .ok (.laload, 1)) (kk : W p l e R s m args below meth c H locs cells slots Q (F0 m (pc + 1) ls (.long (x.2.2 27 i.toNatClampNeg) :: rest))) : W p l e R s m args below meth c H locs cells slots Q (F0 m pc ls (.int i :: .ref (L (.inr (0, 27, 0))) :: rest)) := m_lald X hw (i := .inr (0, 27, 0)) rfl hin hdg kk
theorem r_ast27 {i : Int32} {v : Int64} (X : mX Γ p m c cc nL s args RX10 A) (hw : mW Γ.1 vwCl A L (rM Γ L x) H) (hS : va_S A s.heap H locs) (hin : vp_in i 600) (hdg : decode cc pc = .ok (.lastore, 1)) (kk : ∀ (H1 : Heap) (locs1 : List Loc), mW Γ.1 vwCl A L (rM Γ L (sJ x 27 i.toNatClampNeg v)) H1 → va_S A s.heap H1 locs1 → W p l e R s m args below meth c H1 locs1 cells slots Q (F0 m (pc + 1) ls rest)) : W p l e R s m args below meth c H locs cells slots Q (F0 m pc ls (.long v :: .int i :: .ref (L (.inr (0, 27, 0))) :: rest)) := m_last X hw hS (i := .inr (0, 27, 0)) rfl hin hdg (fun H1 locs1 h1 h2 => kk H1 locs1 (by have e := rU_27 Γ x i.toNatClampNeg v; show mW Γ.1 vwCl A L ([.inr (8, rF L x)], [rA Γ (sJ x 27 i.toNatClampNeg v)]) H1; rw [← e]; exact h1) h2)
theorem r_get28 (X : mX Γ p m c cc nL s args RX10 A) (hw : mW Γ.1 vwCl A L (rM Γ L x) H) (hdg : decode cc pc = .ok (.getfield 263, 3)) (kk : W p l e R s m args below meth c H locs cells slots Q (F0 m (pc + 3) ls (.int (x.1 28) :: rest))) : W p l e R s m args below meth c H locs cells slots Q (F0 m pc ls (.ref (L (.inl 0)) :: rest)) := m_get X hw (i := .inl 0) (ci := 8) rfl rfl gX10 28 (by decide) fl_X10_263 rfl rfl hdg kk
theorem r_put28 {v : Int32} (X : mX Γ p m c cc nL s args RX10 A) (hw : mW Γ.1 vwCl A L (rM Γ L x) H) (hS : va_S A s.heap H locs) (hdg : decode cc pc = .ok (.putfield 263, 3)) (kk : ∀ (H1 : Heap) (locs1 : List Loc), mW Γ.1 vwCl A L (rM Γ L (sS x 28 v)) H1 → va_S A s.heap H1 locs1 → W p l e R s m args below meth c H1 locs1 cells slots Q (F0 m (pc + 3) ls rest)) : W p l e R s m args below meth c H locs cells slots Q (F0 m pc ls (.int v :: .ref (L (.inl 0)) :: rest)) := m_put X hw hS (i := .inl 0) (ci := 8) (ty := .int) rfl rfl gX10 tyX10 tyX10_ok nmX10 28 (by decide) fl_X10_263 rfl rfl rfl rfl rfl (show 28 < 35 by decide) hdg kk
theorem r_get29 (X : mX Γ p m c cc nL s args RX10 A) (hw : mW Γ.1 vwCl A L (rM Γ L x) H) (hdg : decode cc pc = .ok (.getfield 251, 3)) (kk : W p l e R s m args below meth c H locs cells slots Q (F0 m (pc + 3) ls (.int (x.1 29) :: rest))) : W p l e R s m args below meth c H locs cells slots Q (F0 m pc ls (.ref (L (.inl 0)) :: rest)) := m_get X hw (i := .inl 0) (ci := 8) rfl rfl gX10 29 (by decide) fl_X10_251 rfl rfl hdg kk
theorem r_put29 {v : Int32} (X : mX Γ p m c cc nL s args RX10 A) (hw : mW Γ.1 vwCl A L (rM Γ L x) H) (hS : va_S A s.heap H locs) (hdg : decode cc pc = .ok (.putfield 251, 3)) (kk : ∀ (H1 : Heap) (locs1 : List Loc), mW Γ.1 vwCl A L (rM Γ L (sS x 29 v)) H1 → va_S A s.heap H1 locs1 → W p l e R s m args below meth c H1 locs1 cells slots Q (F0 m (pc + 3) ls rest)) : W p l e R s m args below meth c H locs cells slots Q (F0 m pc ls (.int v :: .ref (L (.inl 0)) :: rest)) := m_put X hw hS (i := .inl 0) (ci := 8) (ty := .int) rfl rfl gX10 tyX10 tyX10_ok nmX10 29 (by decide) fl_X10_251 rfl rfl rfl rfl rfl (show 29 < 35 by decide) hdg kk
theorem r_get30 (X : mX Γ p m c cc nL s args RX10 A) (hw : mW Γ.1 vwCl A L (rM Γ L x) H) (hdg : decode cc pc = .ok (.getfield 254, 3)) (kk : W p l e R s m args below meth c H locs cells slots Q (F0 m (pc + 3) ls (.int (x.1 30) :: rest))) : W p l e R s m args below meth c H locs cells slots Q (F0 m pc ls (.ref (L (.inl 0)) :: rest)) := m_get X hw (i := .inl 0) (ci := 8) rfl rfl gX10 30 (by decide) fl_X10_254 rfl rfl hdg kk
theorem r_put30 {v : Int32} (X : mX Γ p m c cc nL s args RX10 A) (hw : mW Γ.1 vwCl A L (rM Γ L x) H) (hS : va_S A s.heap H locs) (hdg : decode cc pc = .ok (.putfield 254, 3)) (kk : ∀ (H1 : Heap) (locs1 : List Loc), mW Γ.1 vwCl A L (rM Γ L (sS x 30 v)) H1 → va_S A s.heap H1 locs1 → W p l e R s m args below meth c H1 locs1 cells slots Q (F0 m (pc + 3) ls rest)) : W p l e R s m args below meth c H locs cells slots Q (F0 m pc ls (.int v :: .ref (L (.inl 0)) :: rest)) := m_put X hw hS (i := .inl 0) (ci := 8) (ty := .int) rfl rfl gX10 tyX10 tyX10_ok nmX10 30 (by decide) fl_X10_254 rfl rfl rfl rfl rfl (show 30 < 35 by decide) hdg kk
theorem r_get31 (X : mX Γ p m c cc nL s args RX10 A) (hw : mW Γ.1 vwCl A L (rM Γ L x) H) (hdg : decode cc pc = .ok (.getfield 257, 3)) (kk : W p l e R s m args below meth c H locs cells slots Q (F0 m (pc + 3) ls (.int (x.1 31) :: rest))) : W p l e R s m args below meth c H locs cells slots Q (F0 m pc ls (.ref (L (.inl 0)) :: rest)) := m_get X hw (i := .inl 0) (ci := 8) rfl rfl gX10 31 (by decide) fl_X10_257 rfl rfl hdg kk
theorem r_put31 {v : Int32} (X : mX Γ p m c cc nL s args RX10 A) (hw : mW Γ.1 vwCl A L (rM Γ L x) H) (hS : va_S A s.heap H locs) (hdg : decode cc pc = .ok (.putfield 257, 3)) (kk : ∀ (H1 : Heap) (locs1 : List Loc), mW Γ.1 vwCl A L (rM Γ L (sS x 31 v)) H1 → va_S A s.heap H1 locs1 → W p l e R s m args below meth c H1 locs1 cells slots Q (F0 m (pc + 3) ls rest)) : W p l e R s m args below meth c H locs cells slots Q (F0 m pc ls (.int v :: .ref (L (.inl 0)) :: rest)) := m_put X hw hS (i := .inl 0) (ci := 8) (ty := .int) rfl rfl gX10 tyX10 tyX10_ok nmX10 31 (by decide) fl_X10_257 rfl rfl rfl rfl rfl (show 31 < 35 by decide) hdg kk
theorem r_get32 (X : mX Γ p m c cc nL s args RX10 A) (hw : mW Γ.1 vwCl A L (rM Γ L x) H) (hdg : decode cc pc = .ok (.getfield 260, 3)) (kk : W p l e R s m args below meth c H locs cells slots Q (F0 m (pc + 3) ls (.int (x.1 32) :: rest))) : W p l e R s m args below meth c H locs cells slots Q (F0 m pc ls (.ref (L (.inl 0)) :: rest)) := m_get X hw (i := .inl 0) (ci := 8) rfl rfl gX10 32 (by decide) fl_X10_260 rfl rfl hdg kk
theorem r_put32 {v : Int32} (X : mX Γ p m c cc nL s args RX10 A) (hw : mW Γ.1 vwCl A L (rM Γ L x) H) (hS : va_S A s.heap H locs) (hdg : decode cc pc = .ok (.putfield 260, 3)) (kk : ∀ (H1 : Heap) (locs1 : List Loc), mW Γ.1 vwCl A L (rM Γ L (sS x 32 v)) H1 → va_S A s.heap H1 locs1 → W p l e R s m args below meth c H1 locs1 cells slots Q (F0 m (pc + 3) ls rest)) : W p l e R s m args below meth c H locs cells slots Q (F0 m pc ls (.int v :: .ref (L (.inl 0)) :: rest)) := m_put X hw hS (i := .inl 0) (ci := 8) (ty := .int) rfl rfl gX10 tyX10 tyX10_ok nmX10 32 (by decide) fl_X10_260 rfl rfl rfl rfl rfl (show 32 < 35 by decide) hdg kk
theorem r_get33 (X : mX Γ p m c cc nL s args RX10 A) (hw : mW Γ.1 vwCl A L (rM Γ L x) H) (hdg : decode cc pc = .ok (.getfield 245, 3)) (kk : W p l e R s m args below meth c H locs cells slots Q (F0 m (pc + 3) ls (.int (x.1 33) :: rest))) : W p l e R s m args below meth c H locs cells slots Q (F0 m pc ls (.ref (L (.inl 0)) :: rest)) := m_get X hw (i := .inl 0) (ci := 8) rfl rfl gX10 33 (by decide) fl_X10_245 rfl rfl hdg kk
theorem r_put33 {v : Int32} (X : mX Γ p m c cc nL s args RX10 A) (hw : mW Γ.1 vwCl A L (rM Γ L x) H) (hS : va_S A s.heap H locs) (hn : narrow .boolean (.int v) = .int v) (hf : fits .boolean (.int v) = true) (hdg : decode cc pc = .ok (.putfield 245, 3)) (kk : ∀ (H1 : Heap) (locs1 : List Loc), mW Γ.1 vwCl A L (rM Γ L (sS x 33 v)) H1 → va_S A s.heap H1 locs1 → W p l e R s m args below meth c H1 locs1 cells slots Q (F0 m (pc + 3) ls rest)) : W p l e R s m args below meth c H locs cells slots Q (F0 m pc ls (.int v :: .ref (L (.inl 0)) :: rest)) := m_put X hw hS (i := .inl 0) (ci := 8) (ty := .boolean) rfl rfl gX10 tyX10 tyX10_ok nmX10 33 (by decide) fl_X10_245 rfl rfl rfl hn hf (show 33 < 35 by decide) hdg kk
theorem r_get34 (X : mX Γ p m c cc nL s args RX10 A) (hw : mW Γ.1 vwCl A L (rM Γ L x) H) (hdg : decode cc pc = .ok (.getfield 273, 3)) (kk : W p l e R s m args below meth c H locs cells slots Q (F0 m (pc + 3) ls (.int (x.1 34) :: rest))) : W p l e R s m args below meth c H locs cells slots Q (F0 m pc ls (.ref (L (.inl 0)) :: rest)) := m_get X hw (i := .inl 0) (ci := 8) rfl rfl gX10 34 (by decide) fl_X10_273 rfl rfl hdg kk
theorem r_put34 {v : Int32} (X : mX Γ p m c cc nL s args RX10 A) (hw : mW Γ.1 vwCl A L (rM Γ L x) H) (hS : va_S A s.heap H locs) (hdg : decode cc pc = .ok (.putfield 273, 3)) (kk : ∀ (H1 : Heap) (locs1 : List Loc), mW Γ.1 vwCl A L (rM Γ L (sS x 34 v)) H1 → va_S A s.heap H1 locs1 → W p l e R s m args below meth c H1 locs1 cells slots Q (F0 m (pc + 3) ls rest)) : W p l e R s m args below meth c H locs cells slots Q (F0 m pc ls (.int v :: .ref (L (.inl 0)) :: rest)) := m_put X hw hS (i := .inl 0) (ci := 8) (ty := .int) rfl rfl gX10 tyX10 tyX10_ok nmX10 34 (by decide) fl_X10_273 rfl rfl rfl rfl rfl (show 34 < 35 by decide) hdg kk
end RR
