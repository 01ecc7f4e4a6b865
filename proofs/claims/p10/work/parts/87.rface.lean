/-! THE REFERENCE: calls that tell it code -/
theorem RI_chg {x y : RS} {k0 : Nat} (h : RInv x) (e0 : y.1 0 = x.1 0) (e9 : y.2.1 9 = upd (x.2.1 9) k0 0) (e11 : y.2.1 11 = x.2.1 11) (hq : ∀ k, k < 8 → rq y k) (hs : ∀ k, k < 8 → k ≠ k0 → sameK x y k) : RInv y := by
  obtain ⟨n, h1, h2, h3, h4, h5⟩ := h
  refine ⟨n, h1, by rw [e0]; exact h2, hq, fun k hk hr => ?_, by rw [e11]; exact h5⟩
  rw [e9] at hr
  by_cases w : k = k0
  · rw [w, upd_same] at hr; exact absurd rfl hr
  · rw [upd_oth w] at hr
    obtain ⟨a, τ, t⟩ := h4 k hk hr
    exact ⟨a, τ, Tk_eq (hs k hk w) hk (h3 k hk) t⟩
theorem fmA_dp {f : Nat → Int32} {o : Nat} {v : Int32} (hv : r_dp v) (h : ∀ j, j < 320 → r_dp (f j)) : ∀ n j, j < 320 → r_dp (fmA f o v n j)
  | 0, j, hj => h j hj
  | n + 1, j, hj => by
    show r_dp (upd (fmA f o v n) (o + n) v j)
    by_cases w : j = o + n
    · rw [w, upd_same]; exact hv
    · rw [upd_oth w]; exact fmA_dp hv h n j hj
theorem sAs_k (x : RS) (k : Nat) (f : Nat → Int32) : (sAs x k f).2.1 k = f := by
  show va_up x.2.1 k f k = _
  simp [va_up]
theorem sAs_o {x : RS} {k j : Nat} {f : Nat → Int32} (h : j ≠ k) : (sAs x k f).2.1 j = x.2.1 j := by
  show va_up x.2.1 k f j = _
  simp [va_up, h]
theorem RI_method {x : RS} {n : Nat} {a : Int32} (h : RInv x) (hn : x.1 0 = nI n) (h8 : n ≤ 8) : RInv (r_method x n a).2 := by
  unfold r_method
  by_cases c1 : r_isIn a.toInt64 0 4 = true
  · rw [if_pos c1]
    by_cases c2 : n = 8
    · rw [if_pos c2]; exact h
    · rw [if_neg c2]
      show RInv (sS (sAs (sA x 1 n a) 7 (fmA (x.2.1 7) (40 * n) (-1) 40)) 0 (nI (n + 1)))
      generalize hy : sS (sAs (sA x 1 n a) 7 (fmA (x.2.1 7) (40 * n) (-1) 40)) 0 (nI (n + 1)) = y
      have y0 : y.1 0 = nI (n + 1) := by rw [← hy]; exact sS_k _ _ _
      have y1 : y.2.1 1 = upd (x.2.1 1) n a := by rw [← hy]; exact (sAs_o (by decide)).trans (sA_k x 1 n a)
      have y7 : y.2.1 7 = fmA (x.2.1 7) (40 * n) (-1) 40 := by rw [← hy]; exact sAs_k _ _ _
      have yO : ∀ j, j ≠ 1 → j ≠ 7 → y.2.1 j = x.2.1 j := fun j a b => by rw [← hy]; exact (sAs_o b).trans (sA_o a)
      have y4 : y.2.2 = x.2.2 := by rw [← hy]; rfl
      obtain ⟨pa, -, p4, -, ha⟩ := isIn_nat (l := 0) (h := 4) (by decide) (by decide) c1
      obtain ⟨m, h1, h2, h3, h4, h5⟩ := h
      have hmn : m = n := nI_inj (by omega) (by omega) (h2.symm.trans hn)
      subst hmn
      refine ⟨m + 1, by omega, y0, fun k hk => rq_of (om := oM x k) (hn := hN x k) (hf := hF x k) (hto := hT x k) (hat := hA x k) (hwh := hW x k) (pm := fun t => if t = m then pa else pM x t) ?_, fun k hk hr => ?_, fun i hi => by rw [yO 11 (by decide) (by decide)]; exact h5 i hi⟩
      · obtain ⟨q1, q2, q3, q4, q5, q6, q7⟩ := h3 k hk
        refine ⟨by rw [yO 2 (by decide) (by decide)]; exact q1, q2, by rw [yO 5 (by decide) (by decide)]; exact q3, q4, ?_, fun t ht => ?_, fun j hj => by rw [y7]; exact fmA_dp (Or.inl rfl) q7 40 j hj⟩
        · unfold p_HH at q5 ⊢
          rw [yO 6 (by decide) (by decide)]
          exact q5
        · rw [y1]
          by_cases w : t = m
          · rw [w, upd_same]; simp only [if_true]; exact ⟨ha, p4⟩
          · rw [upd_oth w]; simp only [if_neg w]; exact q6 t ht
      · rw [yO 9 (by decide) (by decide)] at hr
        obtain ⟨b1, τ, b2⟩ := h4 k hk hr
        refine ⟨by omega, τ, Tk_eq ⟨by rw [yO 2 (by decide) (by decide)], by rw [yO 5 (by decide) (by decide)], fun j _ => by rw [yO 6 (by decide) (by decide)], fun j _ => ⟨by rw [yO 3 (by decide) (by decide)], by rw [y4]⟩, fun t ht => ?_⟩ hk (h3 k hk) b2⟩
        rw [y1, upd_oth (by omega)]
  · rw [if_neg c1]; exact h
theorem RI_op {x : RS} {n : Nat} {a o : Int32} {v : Int64} (h : RInv x) (h8 : n ≤ 8) : RInv (r_op x n (oM x) a o v).2 := by
  unfold r_op
  by_cases c1 : r_isM n a = true
  · rw [if_pos c1]
    obtain ⟨k0, hk0, rfl⟩ := isM_nat c1
    rw [nI_clamp (by omega)]
    by_cases c2 : oM x k0 = 40
    · rw [if_pos c2]; exact h
    · rw [if_neg c2]
      show RInv (sA (sA (sJ (sA x 3 (40 * k0 + oM x k0) o) 4 (40 * k0 + oM x k0) v) 2 k0 (nI (oM x k0 + 1))) 9 k0 0)
      generalize hy : sA (sA (sJ (sA x 3 (40 * k0 + oM x k0) o) 4 (40 * k0 + oM x k0) v) 2 k0 (nI (oM x k0 + 1))) 9 k0 0 = y
      have h3 : ∀ k, k < 8 → rq x k := by obtain ⟨_, _, _, h3, _⟩ := h; exact h3
      have hom := (h3 k0 (by omega)).2.1
      have y9 : y.2.1 9 = upd (x.2.1 9) k0 0 := by rw [← hy, sA_k, sA_o (j := 9) (k := 2) (by decide)]; exact congrArg (fun g => upd g k0 0) (sA_o (x := x) (k := 3) (j := 9) (f := 40 * k0 + oM x k0) (v := o) (by decide))
      have y2 : y.2.1 2 = upd (x.2.1 2) k0 (nI (oM x k0 + 1)) := by rw [← hy, sA_o (j := 2) (k := 9) (by decide), sA_k]; exact congrArg (fun g => upd g k0 (nI (oM x k0 + 1))) (sA_o (x := x) (k := 3) (j := 2) (f := 40 * k0 + oM x k0) (v := o) (by decide))
      have y3 : y.2.1 3 = upd (x.2.1 3) (40 * k0 + oM x k0) o := by rw [← hy, sA_o (j := 3) (k := 9) (by decide), sA_o (j := 3) (k := 2) (by decide)]; exact sA_k x 3 _ o
      have yO : ∀ j, j ≠ 2 → j ≠ 3 → j ≠ 9 → y.2.1 j = x.2.1 j := fun j a b c => by rw [← hy, sA_o c, sA_o a]; exact sA_o b
      have y4 : y.2.2 4 = vp_updL (x.2.2 4) (40 * k0 + oM x k0) v := by rw [← hy]; exact sJ_k (sA x 3 (40 * k0 + oM x k0) o) 4 _ v
      refine RI_chg (k0 := k0) h (by rw [← hy]; rfl) y9 (yO 11 (by decide) (by decide) (by decide)) (fun k hk => rq_of (om := if k = k0 then oM x k0 + 1 else oM x k) (hn := hN x k) (hf := hF x k) (hto := hT x k) (hat := hA x k) (hwh := hW x k) (pm := pM x) ?_) (fun k hk hne => ⟨by rw [y2, upd_oth hne], by rw [yO 5 (by decide) (by decide) (by decide)], fun j _ => by rw [yO 6 (by decide) (by decide) (by decide)], fun j hj => ⟨by rw [y3, upd_oth (by omega)], by rw [y4, updL_o (by omega)]⟩, fun t _ => by rw [yO 1 (by decide) (by decide) (by decide)]⟩)
      obtain ⟨q1, q2, q3, q4, q5, q6, q7⟩ := h3 k hk
      refine ⟨?_, ?_, by rw [yO 5 (by decide) (by decide) (by decide)]; exact q3, q4, ?_, by rw [yO 1 (by decide) (by decide) (by decide)]; exact q6, by rw [yO 7 (by decide) (by decide) (by decide)]; exact q7⟩
      · rw [y2]
        by_cases w : k = k0
        · rw [w, upd_same, if_pos rfl]
        · rw [upd_oth w, if_neg w]; exact q1
      · by_cases w : k = k0
        · rw [if_pos w]; omega
        · rw [if_neg w]; exact q2
      · unfold p_HH at q5 ⊢
        rw [yO 6 (by decide) (by decide) (by decide)]
        exact q5
  · rw [if_neg c1]; exact h
theorem RI_frame {x : RS} {n : Nat} {a b g : Int32} (h : RInv x) (h8 : n ≤ 8) : RInv (r_frame x n a b g).2 := by
  unfold r_frame
  by_cases c1 : r_isM n a = true ∧ r_isIn b.toInt64 0 39 = true ∧ r_isIn g.toInt64 (-1) 8 = true
  · rw [if_pos c1]
    obtain ⟨c1, -, c3⟩ := c1
    obtain ⟨k0, hk0, rfl⟩ := isM_nat c1
    rw [nI_clamp (by omega)]
    show RInv (sA (sAs (sA x 7 (40 * k0 + b.toNatClampNeg) g) 8 (fmA (x.2.1 8) (16 * (40 * k0 + b.toNatClampNeg)) 0 16)) 9 k0 0)
    generalize hy : sA (sAs (sA x 7 (40 * k0 + b.toNatClampNeg) g) 8 (fmA (x.2.1 8) (16 * (40 * k0 + b.toNatClampNeg)) 0 16)) 9 k0 0 = y
    have h3 : ∀ k, k < 8 → rq x k := by obtain ⟨_, _, _, h3, _⟩ := h; exact h3
    have y9 : y.2.1 9 = upd (x.2.1 9) k0 0 := by rw [← hy, sA_k, sAs_o (by decide), sA_o (j := 9) (k := 7) (by decide)]
    have y7 : y.2.1 7 = upd (x.2.1 7) (40 * k0 + b.toNatClampNeg) g := by rw [← hy, sA_o (j := 7) (k := 9) (by decide), sAs_o (by decide), sA_k]
    have yO : ∀ j, j ≠ 7 → j ≠ 8 → j ≠ 9 → y.2.1 j = x.2.1 j := fun j a b c => by rw [← hy, sA_o c, sAs_o b, sA_o a]
    have y4 : y.2.2 = x.2.2 := by rw [← hy]; rfl
    have hg : r_dp g := by
      have hh := (r_isIn_iff _ _ _).mp c3
      rw [i64_toInt] at hh
      have e1 : (-1 : Int64).toInt = -1 := by decide
      have e8 : (8 : Int64).toInt = 8 := by decide
      rw [e1, e8] at hh
      by_cases w : 0 ≤ g.toInt
      · obtain ⟨e, -⟩ := nat_of_toInt w
        exact Or.inr ⟨g.toInt.toNat, by omega, e⟩
      · refine Or.inl (Int32.toInt_inj.mp ?_)
        have e2 : (-1 : Int32).toInt = -1 := by decide
        omega
    refine RI_chg (k0 := k0) h (by rw [← hy]; rfl) y9 (yO 11 (by decide) (by decide) (by decide)) (fun k hk => rq_of (om := oM x k) (hn := hN x k) (hf := hF x k) (hto := hT x k) (hat := hA x k) (hwh := hW x k) (pm := pM x) ?_) (fun k hk hne => same_of (yO 1 (by decide) (by decide) (by decide)) (yO 2 (by decide) (by decide) (by decide)) (yO 3 (by decide) (by decide) (by decide)) (yO 5 (by decide) (by decide) (by decide)) (yO 6 (by decide) (by decide) (by decide)) (by rw [y4]))
    obtain ⟨q1, q2, q3, q4, q5, q6, q7⟩ := h3 k hk
    refine ⟨by rw [yO 2 (by decide) (by decide) (by decide)]; exact q1, q2, by rw [yO 5 (by decide) (by decide) (by decide)]; exact q3, q4, ?_, by rw [yO 1 (by decide) (by decide) (by decide)]; exact q6, fun j hj => ?_⟩
    · unfold p_HH at q5 ⊢
      rw [yO 6 (by decide) (by decide) (by decide)]
      exact q5
    · rw [y7]
      by_cases w : j = 40 * k0 + b.toNatClampNeg
      · rw [w, upd_same]; exact hg
      · rw [upd_oth w]; exact q7 j hj
  · rw [if_neg c1]; exact h
theorem RI_set {x : RS} {n : Nat} {a b g w : Int32} (h : RInv x) (h8 : n ≤ 8) : RInv (r_set x n a b g w).2 := by
  unfold r_set
  by_cases c1 : r_isM n a = true ∧ r_isIn b.toInt64 0 39 = true ∧ ¬ x.2.1 7 (40 * a.toNatClampNeg + b.toNatClampNeg) < 0 ∧ r_isIn g.toInt64 0 (7 + x.2.1 7 (40 * a.toNatClampNeg + b.toNatClampNeg)).toInt64 = true ∧ r_isKind w = true
  · rw [if_pos c1]
    obtain ⟨k0, hk0, e0⟩ := isM_nat c1.1
    have ek : a.toNatClampNeg = k0 := by rw [e0]; exact nI_clamp (by omega)
    rw [ek]
    show RInv (sA (sA x 8 (16 * (40 * k0 + b.toNatClampNeg) + g.toNatClampNeg) w) 9 k0 0)
    generalize hy : sA (sA x 8 (16 * (40 * k0 + b.toNatClampNeg) + g.toNatClampNeg) w) 9 k0 0 = y
    have h3 : ∀ k, k < 8 → rq x k := by obtain ⟨_, _, _, h3, _⟩ := h; exact h3
    have y9 : y.2.1 9 = upd (x.2.1 9) k0 0 := by rw [← hy, sA_k, sA_o (j := 9) (k := 8) (by decide)]
    have yO : ∀ j, j ≠ 8 → j ≠ 9 → y.2.1 j = x.2.1 j := fun j b c => by rw [← hy, sA_o c, sA_o b]
    have y4 : y.2.2 = x.2.2 := by rw [← hy]; rfl
    exact RI_chg (k0 := k0) h (by rw [← hy]; rfl) y9 (yO 11 (by decide) (by decide)) (fun k hk => rq_eq (yO 1 (by decide) (by decide)) (yO 2 (by decide) (by decide)) (yO 5 (by decide) (by decide)) (yO 6 (by decide) (by decide)) (yO 7 (by decide) (by decide)) (h3 k hk)) (fun k hk hne => same_of (yO 1 (by decide) (by decide)) (yO 2 (by decide) (by decide)) (yO 3 (by decide) (by decide)) (yO 5 (by decide) (by decide)) (yO 6 (by decide) (by decide)) (by rw [y4]))
  · rw [if_neg c1]; exact h
theorem RI_handler {x : RS} {n : Nat} {a b e2 g2 w2 : Int32} (h : RInv x) (h8 : n ≤ 8) : RInv (r_handler x n (hN x) a b e2 g2 w2).2 := by
  unfold r_handler
  by_cases c1 : r_isM n a = true ∧ ¬ b < 0 ∧ ¬ e2 ≤ b ∧ ¬ 40 < e2 ∧ r_isIn g2.toInt64 0 39 = true ∧ r_isIn w2.toInt64 0 7 = true
  · rw [if_pos c1]
    obtain ⟨c1, d1, d2, d3, d4, d5⟩ := c1
    obtain ⟨k0, hk0, rfl⟩ := isM_nat c1
    rw [nI_clamp (by omega)]
    by_cases c2 : hN x k0 = 6
    · rw [if_pos c2]; exact h
    · rw [if_neg c2]
      show RInv (sA (sA (r_hand4 x k0 (hN x k0) b e2 g2 w2) 5 k0 (nI (hN x k0 + 1))) 9 k0 0)
      generalize hy : sA (sA (r_hand4 x k0 (hN x k0) b e2 g2 w2) 5 k0 (nI (hN x k0 + 1))) 9 k0 0 = y
      have h3 : ∀ k, k < 8 → rq x k := by obtain ⟨_, _, _, h3, _⟩ := h; exact h3
      have hn6 := (h3 k0 (by omega)).2.2.2.1
      have r6 : (r_hand4 x k0 (hN x k0) b e2 g2 w2).2.1 6 = upd (upd (upd (upd (x.2.1 6) (4 * (6 * k0 + hN x k0)) b) (4 * (6 * k0 + hN x k0) + 1) e2) (4 * (6 * k0 + hN x k0) + 2) g2) (4 * (6 * k0 + hN x k0) + 3) w2 := by
        unfold r_hand4
        rw [sA_k, sA_k, sA_k, sA_k]
      have rO : ∀ j, j ≠ 6 → (r_hand4 x k0 (hN x k0) b e2 g2 w2).2.1 j = x.2.1 j := by
        intro j hj
        unfold r_hand4
        rw [sA_o hj, sA_o hj, sA_o hj, sA_o hj]
      have y9 : y.2.1 9 = upd (x.2.1 9) k0 0 := by rw [← hy, sA_k, sA_o (j := 9) (k := 5) (by decide), rO 9 (by decide)]
      have y5 : y.2.1 5 = upd (x.2.1 5) k0 (nI (hN x k0 + 1)) := by rw [← hy, sA_o (j := 5) (k := 9) (by decide), sA_k, rO 5 (by decide)]
      have y6 : y.2.1 6 = upd (upd (upd (upd (x.2.1 6) (4 * (6 * k0 + hN x k0)) b) (4 * (6 * k0 + hN x k0) + 1) e2) (4 * (6 * k0 + hN x k0) + 2) g2) (4 * (6 * k0 + hN x k0) + 3) w2 := by rw [← hy, sA_o (j := 6) (k := 9) (by decide), sA_o (j := 6) (k := 5) (by decide), r6]
      have yO : ∀ j, j ≠ 5 → j ≠ 6 → j ≠ 9 → y.2.1 j = x.2.1 j := fun j a b c => by rw [← hy, sA_o c, sA_o a, rO j b]
      have y4 : y.2.2 = x.2.2 := by rw [← hy]; rfl
      have off : ∀ i, (i < 4 * (6 * k0 + hN x k0) ∨ 4 * (6 * k0 + hN x k0) + 4 ≤ i) → y.2.1 6 i = x.2.1 6 i := by
        intro i hi
        rw [y6, upd_oth (by omega), upd_oth (by omega), upd_oth (by omega), upd_oth (by omega)]
      have z0 : (0 : Int32).toInt = 0 := by decide
      have z40 : (40 : Int32).toInt = 40 := by decide
      have b0 : 0 ≤ b.toInt := by
        have := Int32.le_iff_toInt_le.mp (Int32.not_lt.mp d1)
        omega
      have be : b.toInt < e2.toInt := Int32.lt_iff_toInt_lt.mp (Int32.not_le.mp d2)
      have e40 : e2.toInt ≤ 40 := by
        have := Int32.le_iff_toInt_le.mp (Int32.not_lt.mp d3)
        omega
      obtain ⟨eb, -⟩ := nat_of_toInt b0
      obtain ⟨ee, -⟩ := nat_of_toInt (a := e2) (by omega)
      obtain ⟨gN, -, g39, -, eg⟩ := isIn_nat (l := 0) (h := 39) (by decide) (by decide) d4
      obtain ⟨wN, -, w7, -, ew⟩ := isIn_nat (l := 0) (h := 7) (by decide) (by decide) d5
      refine RI_chg (k0 := k0) h (by rw [← hy]; rfl) y9 (yO 11 (by decide) (by decide) (by decide)) (fun k hk => rq_of (om := oM x k) (hn := if k = k0 then hN x k0 + 1 else hN x k) (hf := fun g => if k = k0 ∧ g = hN x k0 then b.toInt.toNat else hF x k g) (hto := fun g => if k = k0 ∧ g = hN x k0 then e2.toInt.toNat else hT x k g) (hat := fun g => if k = k0 ∧ g = hN x k0 then gN else hA x k g) (hwh := fun g => if k = k0 ∧ g = hN x k0 then wN else hW x k g) (pm := pM x) ?_) (fun k hk hne => ⟨by rw [yO 2 (by decide) (by decide) (by decide)], by rw [y5, upd_oth hne], fun j hj => off _ (by omega), fun j hj => ⟨by rw [yO 3 (by decide) (by decide) (by decide)], by rw [y4]⟩, fun t _ => by rw [yO 1 (by decide) (by decide) (by decide)]⟩)
      obtain ⟨q1, q2, q3, q4, q5, q6, q7⟩ := h3 k hk
      refine ⟨by rw [yO 2 (by decide) (by decide) (by decide)]; exact q1, q2, ?_, ?_, fun g hg => ?_, by rw [yO 1 (by decide) (by decide) (by decide)]; exact q6, by rw [yO 7 (by decide) (by decide) (by decide)]; exact q7⟩
      · rw [y5]
        by_cases w : k = k0
        · rw [w, upd_same, if_pos rfl]
        · rw [upd_oth w, if_neg w]; exact q3
      · by_cases w : k = k0
        · rw [if_pos w]; omega
        · rw [if_neg w]; exact q4
      · by_cases w : k = k0 ∧ g = hN x k0
        · obtain ⟨w1, w2_⟩ := w
          subst w1
          subst w2_
          simp only [and_self, if_true]
          refine ⟨?_, ?_, ?_, ?_, by omega, by omega, by omega, w7⟩
          · rw [y6, upd_oth (by omega), upd_oth (by omega), upd_oth (by omega), upd_same]; exact eb
          · rw [y6, upd_oth (by omega), upd_oth (by omega), upd_same]; exact ee
          · rw [y6, upd_oth (by omega), upd_same]; exact eg
          · rw [y6, upd_same]; exact ew
        · simp only [if_neg w]
          have hg2 : g < hN x k := by
            by_cases w1 : k = k0
            · rw [if_pos w1] at hg
              have : g ≠ hN x k0 := fun e => w ⟨w1, e⟩
              rw [w1]
              omega
            · rw [if_neg w1] at hg; exact hg
          have hd : 4 * (6 * k + g) + 4 ≤ 4 * (6 * k0 + hN x k0) ∨ 4 * (6 * k0 + hN x k0) + 4 ≤ 4 * (6 * k + g) := by
            by_cases w1 : k = k0
            · subst w1; omega
            · omega
          have := q5 g hg2
          rw [off _ (by omega), off _ (by omega), off _ (by omega), off _ (by omega)]
          exact this
  · rw [if_neg c1]; exact h
