/-! CLASSES OF KINDS: what a place of a KIND may hold. 0 all, 1 null, 2 INTS, 3 a ROW, 4 another reference -/
def vc (k : Int32) : Nat := if k = 4 then 1 else if k = 5 then 2 else if r_isRow k = true then 3 else if r_isObj k = true ∨ 100 ≤ k then 4 else 0
def vle (a b : Nat) : Bool := decide (b = 0) || (decide (a = b) || ((decide (a = 1) && (decide (b = 2) || (decide (b = 3) || decide (b = 4)))) || ((decide (a = 2) || decide (a = 3)) && decide (b = 4))))
theorem vle_rf (a : Nat) : vle a a = true := by simp [vle]
theorem vle_0 (a : Nat) : vle a 0 = true := by simp [vle]
theorem vle_tr {a b c : Nat} (h1 : vle a b = true) (h2 : vle b c = true) : vle a c = true := by
  simp only [vle, Bool.or_eq_true, Bool.and_eq_true, decide_eq_true_iff] at h1 h2 ⊢
  omega
def VT (mk : Nat) (so : Nat → Int32) (c : Nat) (v : Int64) : Prop := match c with
  | 0 => True
  | 1 => v = -1
  | 2 => v = -1 ∨ ∃ n, n < mk ∧ v = lN n ∧ so n = 50
  | 3 => v = -1 ∨ ∃ n, n < mk ∧ v = lN n ∧ so n ≠ 50
  | _ => v = -1 ∨ ∃ n, n < mk ∧ v = lN n
theorem VT_le {mk : Nat} {so : Nat → Int32} {a b : Nat} {v : Int64} (h : vle a b = true) (ha : a ≤ 4) (hb : b ≤ 4) (hv : VT mk so a v) : VT mk so b v := by
  simp only [vle, Bool.or_eq_true, Bool.and_eq_true, decide_eq_true_iff] at h
  rcases h with h | h | ⟨h, h2⟩ | ⟨h, h2⟩
  · subst h; trivial
  · subst h; exact hv
  · subst h
    have hv : v = -1 := hv
    rcases h2 with h2 | h2 | h2 <;> subst h2 <;> exact Or.inl hv
  · subst h2
    rcases h with h | h
    · subst h
      rcases hv with hv | ⟨n, h1, h2, -⟩
      · exact Or.inl hv
      · exact Or.inr ⟨n, h1, h2⟩
    · subst h
      rcases hv with hv | ⟨n, h1, h2, -⟩
      · exact Or.inl hv
      · exact Or.inr ⟨n, h1, h2⟩
theorem vc_le (k : Int32) : vc k ≤ 4 := by unfold vc; repeat (first | split | omega)
def thL : List Int32 := [5, 10, 11, 12, 13, 14, 15, 16, 17, 21, 22, 23, 24, 25]
theorem thL_all : ∀ n : Nat, n < 26 → r_isThing (nI n) = true → nI n ∈ thL := by decide +kernel
theorem thL_in {k : Int32} (h : r_isThing k = true) : k ∈ thL := by
  have h0 := h
  unfold r_isThing r_isObj r_isRow at h
  rw [r_isIn_32 k 10 17 10 17 (by decide) (by decide), r_isIn_32 k 21 25 21 25 (by decide) (by decide)] at h
  simp only [Bool.or_eq_true, decide_eq_true_iff] at h
  rcases h with h | h | h
  · subst h; decide
  · obtain ⟨e, -⟩ := nat_of_toInt (a := k) (by omega)
    rw [e] at h0 ⊢
    exact thL_all _ (by omega) h0
  · obtain ⟨e, -⟩ := nat_of_toInt (a := k) (by omega)
    rw [e] at h0 ⊢
    exact thL_all _ (by omega) h0
theorem thL_join : ∀ x ∈ thL, ∀ y ∈ thL, vle (vc x) (vc (r_joined x y)) = true ∧ vle (vc y) (vc (r_joined x y)) = true := by decide +kernel
theorem thL_goes : ∀ x ∈ thL, ∀ y ∈ thL, r_goes x y = true → vle (vc x) (vc y) = true := by decide +kernel
theorem thL_null : ∀ x ∈ thL, vle 1 (vc x) = true := by decide +kernel
theorem th_obj {k : Int32} (h : r_isObj k = true) : r_isThing k = true := by unfold r_isThing; rw [h]; simp
theorem th_row {k : Int32} (h : r_isRow k = true) : r_isThing k = true := by unfold r_isThing; rw [h]; simp
theorem vc_4 : vc 4 = 1 := by decide
theorem vc_0 : vc 0 = 0 := by decide
theorem vc_join {x y : Int32} : vle (vc x) (vc (r_joined x y)) = true ∧ vle (vc y) (vc (r_joined x y)) = true := by
  by_cases hx : r_isThing x = true
  · by_cases hy : r_isThing y = true
    · exact thL_join x (thL_in hx) y (thL_in hy)
    · unfold r_joined
      by_cases c1 : x = y
      · rw [if_pos c1, ← c1]; exact ⟨vle_rf _, vle_rf _⟩
      · rw [if_neg c1, if_neg (fun z => hy z.2)]
        by_cases c2 : y = 4 ∧ r_isThing x = true
        · rw [if_pos c2, c2.1, vc_4]; exact ⟨vle_rf _, thL_null x (thL_in hx)⟩
        · rw [if_neg c2]
          unfold r_join1 r_join2 r_join3
          rw [if_neg (by rw [Bool.and_eq_true]; exact fun z => hy (th_obj z.2)), if_neg (by rw [Bool.and_eq_true]; exact fun z => hy (th_row z.2)), if_neg (by rw [Bool.and_eq_true]; exact fun z => hy z.2), vc_0]
          exact ⟨vle_0 _, vle_0 _⟩
  · unfold r_joined
    by_cases c1 : x = y
    · rw [if_pos c1, ← c1]; exact ⟨vle_rf _, vle_rf _⟩
    · rw [if_neg c1]
      by_cases c2 : x = 4 ∧ r_isThing y = true
      · rw [if_pos c2, c2.1, vc_4]; exact ⟨thL_null y (thL_in c2.2), vle_rf _⟩
      · rw [if_neg c2, if_neg (fun z => hx z.2)]
        unfold r_join1 r_join2 r_join3
        rw [if_neg (by rw [Bool.and_eq_true]; exact fun z => hx (th_obj z.1)), if_neg (by rw [Bool.and_eq_true]; exact fun z => hx (th_row z.1)), if_neg (by rw [Bool.and_eq_true]; exact fun z => hx z.1), vc_0]
        exact ⟨vle_0 _, vle_0 _⟩
theorem vc_goes {x y : Int32} (h : r_goes x y = true) : vle (vc x) (vc y) = true := by
  by_cases c1 : x = y ∨ y = 0
  · rcases c1 with c1 | c1
    · rw [c1]; exact vle_rf _
    · rw [c1, vc_0]; exact vle_0 _
  · by_cases c2 : x = 4
    · unfold r_goes at h
      rw [if_neg c1, if_pos c2] at h
      rw [c2, vc_4]
      exact thL_null y (thL_in h)
    · have hxy : r_isThing x = true ∧ r_isThing y = true := by
        unfold r_goes at h
        rw [if_neg c1, if_neg c2] at h
        by_cases c3 : (r_isObj x && r_isObj y) = true
        · rw [Bool.and_eq_true] at c3; exact ⟨th_obj c3.1, th_obj c3.2⟩
        · rw [if_neg c3] at h
          by_cases c4 : ((decide (x = 5) || r_isRow x) && r_isObj y) = true
          · simp only [Bool.and_eq_true, Bool.or_eq_true, decide_eq_true_iff] at c4
            refine ⟨?_, th_obj c4.2⟩
            rcases c4.1 with e | e
            · rw [e]; decide
            · exact th_row e
          · rw [if_neg c4] at h
            simp only [Bool.and_eq_true] at h
            exact ⟨th_row h.1, th_row h.2.1⟩
      exact thL_goes x (thL_in hxy.1) y (thL_in hxy.2) h
