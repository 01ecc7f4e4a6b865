/-! THE CLASS'S KINDS ARE THE REFERENCE'S -/
theorem i32_lt {a b : Int32} : a < b ↔ a.toInt < b.toInt := Int32.lt_iff_toInt_lt
theorem i32_le {a b : Int32} : a ≤ b ↔ a.toInt ≤ b.toInt := Int32.le_iff_toInt_le
theorem r_isIn_32 (k : Int32) (a b : Int64) (x y : Int) (ha : a.toInt = x) (hb : b.toInt = y) : r_isIn k.toInt64 a b = decide (x ≤ k.toInt ∧ k.toInt ≤ y) := by
  apply Bool.eq_iff_iff.mpr
  rw [r_isIn_iff, i64_toInt, decide_eq_true_iff, ha, hb]
theorem k_obj_eq (k : Int32) : k_obj k = r_isObj k := by
  unfold k_obj r_isObj
  rw [r_isIn_32 k 10 17 10 17 (by decide) (by decide)]
  apply Bool.eq_iff_iff.mpr
  simp only [Bool.and_eq_true, Bool.not_eq_true', decide_eq_false_iff_not, decide_eq_true_iff, i32_lt]
  rw [show (10 : Int32).toInt = 10 by decide, show (17 : Int32).toInt = 17 by decide]
  omega
theorem k_row_eq (k : Int32) : k_row k = r_isRow k := by
  unfold k_row r_isRow
  rw [r_isIn_32 k 21 25 21 25 (by decide) (by decide)]
  apply Bool.eq_iff_iff.mpr
  simp only [Bool.and_eq_true, Bool.not_eq_true', decide_eq_false_iff_not, decide_eq_true_iff, i32_lt]
  rw [show (21 : Int32).toInt = 21 by decide, show (25 : Int32).toInt = 25 by decide]
  omega
theorem k_unm_eq (k : Int32) : k_unm k = r_isIn k.toInt64 100 139 := by
  unfold k_unm
  rw [r_isIn_32 k 100 139 100 139 (by decide) (by decide)]
  apply Bool.eq_iff_iff.mpr
  simp only [Bool.and_eq_true, Bool.not_eq_true', decide_eq_false_iff_not, decide_eq_true_iff, i32_lt, i32_le]
  rw [show (100 : Int32).toInt = 100 by decide, show (140 : Int32).toInt = 140 by decide]
  omega
theorem k_kind_eq (k : Int32) : k_kind k = r_isKind k := by
  unfold k_kind r_isKind
  rw [k_obj_eq, k_row_eq, k_unm_eq, r_isIn_32 k 0 5 0 5 (by decide) (by decide)]
  congr 1
  apply Bool.eq_iff_iff.mpr
  simp only [Bool.and_eq_true, Bool.not_eq_true', decide_eq_false_iff_not, decide_eq_true_iff, i32_lt, i32_le]
  rw [show (0 : Int32).toInt = 0 by decide, show (5 : Int32).toInt = 5 by decide]
  omega
def kList : List Int32 := [0, 1, 2, 3, 4, 5, 10, 11, 12, 13, 14, 15, 16, 17, 21, 22, 23, 24, 25, 100, 101, 102, 103, 104, 105, 106, 107, 108, 109, 110, 111, 112, 113, 114, 115, 116, 117, 118, 119, 120, 121, 122, 123, 124, 125, 126, 127, 128, 129, 130, 131, 132, 133, 134, 135, 136, 137, 138, 139]
theorem kList_all : ∀ n : Nat, n < 140 → r_isKind (nI n) = true → nI n ∈ kList := by decide +kernel
theorem kind_in {k : Int32} (h : r_isKind k = true) : k ∈ kList := by
  have h0 := h
  unfold r_isKind r_isObj r_isRow at h
  rw [r_isIn_32 k 0 5 0 5 (by decide) (by decide), r_isIn_32 k 10 17 10 17 (by decide) (by decide), r_isIn_32 k 21 25 21 25 (by decide) (by decide), r_isIn_32 k 100 139 100 139 (by decide) (by decide)] at h
  simp only [Bool.or_eq_true, decide_eq_true_iff] at h
  obtain ⟨e, -⟩ := nat_of_toInt (a := k) (by omega)
  rw [e] at h0 ⊢
  exact kList_all _ (by omega) h0
theorem kPairs : ∀ x ∈ kList, ∀ y ∈ kList, k_goes x y = r_goes x y ∧ k_join x y = r_joined x y := by decide +kernel
theorem k_goes_eq {x y : Int32} (hx : r_isKind x = true) (hy : r_isKind y = true) : k_goes x y = r_goes x y := (kPairs x (kind_in hx) y (kind_in hy)).1
theorem k_join_eq {x y : Int32} (hx : r_isKind x = true) (hy : r_isKind y = true) : k_join x y = r_joined x y := (kPairs x (kind_in hx) y (kind_in hy)).2
def k_kinds (a b c : Int32) : Int32 := if k_kind a = true ∧ k_kind b = true then (if c = 0 then k_join a b else bI (k_goes a b)) else -1
theorem k_kinds_eq (a b c : Int32) : k_kinds a b c = r_kinds a b c := by
  unfold k_kinds r_kinds
  rw [k_kind_eq, k_kind_eq]
  by_cases h : r_isKind a = true ∧ r_isKind b = true
  · rw [if_pos h, if_pos h, k_goes_eq h.1 h.2, k_join_eq h.1 h.2]
  · rw [if_neg h, if_neg h]
