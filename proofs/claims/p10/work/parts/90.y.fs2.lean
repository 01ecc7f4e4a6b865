/-! THE CLASS'S STEP, exactly: what looks at the METHOD -/
theorem sP_rdV {x : CS} {a b a' b' k : Nat} {q : PL} (h : ¬ (a' = a ∧ b' = b + 1)) : (sP x a b q).2.1 a' b' k = x.2.1 a' b' k := by
  show up3 x.2.1 a (b + 1) q.1 a' b' k = _
  rw [up3_ne h]
theorem hasI_x {x : CS} {q : PL} {cm : Nat} {v : Int64} : c_hasI (sP x 0 8 q) cm v = c_hasI x cm v := by
  unfold c_hasI
  rw [sP_rdS (by omega)]
theorem hasI_iff {x : CS} {cm om : Nat} {v : Int64} (hom : x.1 (cm + 2) 0 4 = nI om) (ho40 : om ≤ 40) : c_hasI x cm v = true ↔ (0 ≤ v.toInt ∧ v.toInt < om) := by
  have e0 : (0 : Int64).toInt = 0 := by decide
  unfold c_hasI
  rw [hom]
  simp only [Bool.and_eq_true, Bool.not_eq_true', decide_eq_false_iff_not, decide_eq_true_eq, Int64.lt_iff_toInt_lt, e0]
  rw [i64_toInt, nI_toInt (by omega)]
  omega
theorem hasI_isM {x : CS} {cm om : Nat} {k : Int32} (hom : x.1 (cm + 2) 0 4 = nI om) (ho40 : om ≤ 40) : c_hasI x cm k.toInt64 = r_isM om k := by
  apply Bool.eq_iff_iff.mpr
  rw [hasI_iff hom ho40, isM_iff, i64_toInt]
theorem isL_iff {n : Nat} {v : Int64} (hn : n < 1000) : p_isL n v = true ↔ (0 ≤ v.toInt ∧ v.toInt < n) := by
  have e0 : (0 : Int64).toInt = 0 := by decide
  have e : (nI n - 1).toInt = (n : Int) - 1 := pk_sub_toInt (a := n) (b := 1) (by omega) (by decide)
  unfold p_isL
  rw [r_isIn_iff, i64_toInt, e, e0]
  omega
theorem hasI_isL {x : CS} {cm om : Nat} {v : Int64} (hom : x.1 (cm + 2) 0 4 = nI om) (ho40 : om ≤ 40) : c_hasI x cm v = p_isL om v := by
  apply Bool.eq_iff_iff.mpr
  rw [hasI_iff hom ho40, isL_iff (by omega)]
theorem unm_100 : ∀ n : Nat, n < 40 → k_unm (100 + nI n) = true := by decide +kernel
theorem one_100 : ∀ n : Nat, n < 40 → r_one (100 + nI n) = true := by decide +kernel
theorem unm_no {k : Int32} {om : Nat} (ho : om ≤ 40) (c : k_unm k = false) : ¬ r_isM om (k - 100) = true := by
  intro z
  obtain ⟨n, hn, e⟩ := isM_nat z
  have e2 : k = 100 + nI n := by rw [← e]; exact (i_100 k).symm
  rw [e2] at c
  have := unm_100 n (by omega)
  rw [this] at c
  cases c
theorem made_n {ops : Nat → Int32} {as : Nat → Int64} {om : Nat} {h : Nat → Int32} {d : Nat} {v : Int64} (ho : om ≤ 40) (po : ¬ p_one (h, d) 0 = true) : p_made ops as om (h, d) v = none := by
  unfold p_made
  rw [if_neg]
  rintro ⟨-, z2, z3, -⟩
  obtain ⟨n, hn, e⟩ := isM_nat z3
  have e2 : h (7 + d) = 100 + nI n := by
    have e : h (7 + d) - 100 = nI n := e
    rw [← e]; exact (i_100 _).symm
  apply po
  unfold p_one
  show (decide (0 < d) && r_one (h (7 + d))) = true
  rw [e2, one_100 n (by omega), decide_eq_true (Nat.pos_of_ne_zero z2)]
  rfl
theorem isL_no1 {k : Nat} {v : Int64} (hk : k < 1000) (c : ¬ v < (nI k).toInt64) : ¬ p_isL k v = true := by
  rw [isL_iff hk]
  rw [Int64.lt_iff_toInt_lt, i64_toInt, nI_toInt (by omega)] at c
  omega
theorem isL_no2 {k n : Nat} {v : Int64} (hk : k < 1000) (c : ¬ (0 ≤ v.toInt ∧ v.toInt < n)) (hn : k < n) : ¬ p_isL k v = true := by
  rw [isL_iff hk]
  omega
theorem at_lt {k n : Nat} {v : Int64} (e : v = (nI k).toInt64) (hk : k < 1000) (hn : n < 1000) (c : ¬ ¬ v < (nI n).toInt64) : k < n := by
  rw [e, Int64.lt_iff_toInt_lt, i64_toInt, i64_toInt, nI_toInt (by omega), nI_toInt (by omega)] at c
  omega
theorem isL_k {k t : Nat} {v : Int64} (e : v = (nI t).toInt64) (hk : k < 1000) (ht : t < k) : p_isL k v = true := by
  rw [isL_iff hk, e, i64_toInt, nI_toInt (by omega)]
  omega
theorem i64_32 (a : Int32) : a.toInt64.toInt32 = a := by simp
theorem pops_no {q : PL} {t n : Nat} (ht : t + 1 ≤ n) (h : p_pops (t + 1) q = none) : p_pops n q = none := by
  have e : n = t + 1 + (n - (t + 1)) := by omega
  rw [e]
  exact p_pops_none h _
def f_els (om : Nat) (o : Int32) (v : Int64) (q : PL) : Option PL := if o = 32 ∨ o = 34 then p_pop q 1 else if o = 30 then p_30 om v 1 q else if o = 29 then p_29 om v q else p_30 om v 10 q
theorem els_n {om : Nat} {o : Int32} {v : Int64} {q : PL} (c1 : ¬ (o = 32 ∨ o = 34)) (c2 : p_isL om v = false) : f_els om o v q = none := by
  have n : ¬ p_isL om v = true := by rw [c2]; decide
  have a1 : p_30 om v 1 q = none := if_neg n
  have a2 : p_29 om v q = none := if_neg n
  have a3 : p_30 om v 10 q = none := if_neg n
  unfold f_els
  rw [if_neg c1, a1, a2, a3]
  by_cases c3 : o = 30
  · rw [if_pos c3]
  · rw [if_neg c3]
    by_cases c4 : o = 29
    · rw [if_pos c4]
    · rw [if_neg c4]
section OpF
variable {ops : Nat → Int32} {as : Nat → Int64} {k om : Nat} {pm : Nat → Nat} {i o : Int32} {v : Int64} {q : PL}
theorem op_mov (c1 : ¬ o < 0) (c2 : ¬ o > 6) : p_op ops as k om pm i o v q = f_mov o v q := by
  have z0 : (0 : Int32).toInt = 0 := by decide
  have z6 : (6 : Int32).toInt = 6 := by decide
  have c1x : (0 : Int32).toInt ≤ o.toInt := Int32.le_iff_toInt_le.mp (Int32.not_lt.mp c1)
  have c2x : o.toInt ≤ (6 : Int32).toInt := Int32.le_iff_toInt_le.mp (Int32.not_lt.mp c2)
  rcases (show o.toInt = 0 ∨ o.toInt = 1 ∨ o.toInt = 2 ∨ o.toInt = 3 ∨ o.toInt = 4 ∨ o.toInt = 5 ∨ o.toInt = 6 by omega) with e | e | e | e | e | e | e
  · have e2 : o = 0 := Int32.toInt_inj.mp (e.trans (show ((0 : Nat) : Int) = (0 : Int32).toInt by decide))
    subst e2
    rfl
  · have e2 : o = 1 := Int32.toInt_inj.mp (e.trans (show ((1 : Nat) : Int) = (1 : Int32).toInt by decide))
    subst e2
    rfl
  · have e2 : o = 2 := Int32.toInt_inj.mp (e.trans (show ((2 : Nat) : Int) = (2 : Int32).toInt by decide))
    subst e2
    rfl
  · have e2 : o = 3 := Int32.toInt_inj.mp (e.trans (show ((3 : Nat) : Int) = (3 : Int32).toInt by decide))
    subst e2
    rfl
  · have e2 : o = 4 := Int32.toInt_inj.mp (e.trans (show ((4 : Nat) : Int) = (4 : Int32).toInt by decide))
    subst e2
    rfl
  · have e2 : o = 5 := Int32.toInt_inj.mp (e.trans (show ((5 : Nat) : Int) = (5 : Int32).toInt by decide))
    subst e2
    rfl
  · have e2 : o = 6 := Int32.toInt_inj.mp (e.trans (show ((6 : Nat) : Int) = (6 : Int32).toInt by decide))
    subst e2
    rfl
theorem op_rec (c1 : o > 6) (c2 : ¬ o > 11) : p_op ops as k om pm i o v q = f_rec o v q := by
  have z6 : (6 : Int32).toInt = 6 := by decide
  have z11 : (11 : Int32).toInt = 11 := by decide
  have c1x : (6 : Int32).toInt < o.toInt := Int32.lt_iff_toInt_lt.mp c1
  have c2x : o.toInt ≤ (11 : Int32).toInt := Int32.le_iff_toInt_le.mp (Int32.not_lt.mp c2)
  rcases (show o.toInt = 7 ∨ o.toInt = 8 ∨ o.toInt = 9 ∨ o.toInt = 10 ∨ o.toInt = 11 by omega) with e | e | e | e | e
  · have e2 : o = 7 := Int32.toInt_inj.mp (e.trans (show ((7 : Nat) : Int) = (7 : Int32).toInt by decide))
    subst e2
    rfl
  · have e2 : o = 8 := Int32.toInt_inj.mp (e.trans (show ((8 : Nat) : Int) = (8 : Int32).toInt by decide))
    subst e2
    rfl
  · have e2 : o = 9 := Int32.toInt_inj.mp (e.trans (show ((9 : Nat) : Int) = (9 : Int32).toInt by decide))
    subst e2
    rfl
  · have e2 : o = 10 := Int32.toInt_inj.mp (e.trans (show ((10 : Nat) : Int) = (10 : Int32).toInt by decide))
    subst e2
    rfl
  · have e2 : o = 11 := Int32.toInt_inj.mp (e.trans (show ((11 : Nat) : Int) = (11 : Int32).toInt by decide))
    subst e2
    rfl
theorem op_arr (c1 : o > 13) (c2 : ¬ o > 20) : p_op ops as k om pm i o v q = f_arr o v q := by
  have z13 : (13 : Int32).toInt = 13 := by decide
  have z20 : (20 : Int32).toInt = 20 := by decide
  have c1x : (13 : Int32).toInt < o.toInt := Int32.lt_iff_toInt_lt.mp c1
  have c2x : o.toInt ≤ (20 : Int32).toInt := Int32.le_iff_toInt_le.mp (Int32.not_lt.mp c2)
  rcases (show o.toInt = 14 ∨ o.toInt = 15 ∨ o.toInt = 16 ∨ o.toInt = 17 ∨ o.toInt = 18 ∨ o.toInt = 19 ∨ o.toInt = 20 by omega) with e | e | e | e | e | e | e
  · have e2 : o = 14 := Int32.toInt_inj.mp (e.trans (show ((14 : Nat) : Int) = (14 : Int32).toInt by decide))
    subst e2
    rfl
  · have e2 : o = 15 := Int32.toInt_inj.mp (e.trans (show ((15 : Nat) : Int) = (15 : Int32).toInt by decide))
    subst e2
    rfl
  · have e2 : o = 16 := Int32.toInt_inj.mp (e.trans (show ((16 : Nat) : Int) = (16 : Int32).toInt by decide))
    subst e2
    rfl
  · have e2 : o = 17 := Int32.toInt_inj.mp (e.trans (show ((17 : Nat) : Int) = (17 : Int32).toInt by decide))
    subst e2
    rfl
  · have e2 : o = 18 := Int32.toInt_inj.mp (e.trans (show ((18 : Nat) : Int) = (18 : Int32).toInt by decide))
    subst e2
    rfl
  · have e2 : o = 19 := Int32.toInt_inj.mp (e.trans (show ((19 : Nat) : Int) = (19 : Int32).toInt by decide))
    subst e2
    rfl
  · have e2 : o = 20 := Int32.toInt_inj.mp (e.trans (show ((20 : Nat) : Int) = (20 : Int32).toInt by decide))
    subst e2
    rfl
theorem op_obj (c1 : o > 20) (c2 : ¬ o > 25) : p_op ops as k om pm i o v q = f_obj o v q := by
  have z20 : (20 : Int32).toInt = 20 := by decide
  have z25 : (25 : Int32).toInt = 25 := by decide
  have c1x : (20 : Int32).toInt < o.toInt := Int32.lt_iff_toInt_lt.mp c1
  have c2x : o.toInt ≤ (25 : Int32).toInt := Int32.le_iff_toInt_le.mp (Int32.not_lt.mp c2)
  rcases (show o.toInt = 21 ∨ o.toInt = 22 ∨ o.toInt = 23 ∨ o.toInt = 24 ∨ o.toInt = 25 by omega) with e | e | e | e | e
  · have e2 : o = 21 := Int32.toInt_inj.mp (e.trans (show ((21 : Nat) : Int) = (21 : Int32).toInt by decide))
    subst e2
    rfl
  · have e2 : o = 22 := Int32.toInt_inj.mp (e.trans (show ((22 : Nat) : Int) = (22 : Int32).toInt by decide))
    subst e2
    rfl
  · have e2 : o = 23 := Int32.toInt_inj.mp (e.trans (show ((23 : Nat) : Int) = (23 : Int32).toInt by decide))
    subst e2
    rfl
  · have e2 : o = 24 := Int32.toInt_inj.mp (e.trans (show ((24 : Nat) : Int) = (24 : Int32).toInt by decide))
    subst e2
    rfl
  · have e2 : o = 25 := Int32.toInt_inj.mp (e.trans (show ((25 : Nat) : Int) = (25 : Int32).toInt by decide))
    subst e2
    rfl
theorem op_tur (c1 : o > 25) (c2 : ¬ o > 28) : p_op ops as k om pm i o v q = f_tur o q := by
  have z25 : (25 : Int32).toInt = 25 := by decide
  have z28 : (28 : Int32).toInt = 28 := by decide
  have c1x : (25 : Int32).toInt < o.toInt := Int32.lt_iff_toInt_lt.mp c1
  have c2x : o.toInt ≤ (28 : Int32).toInt := Int32.le_iff_toInt_le.mp (Int32.not_lt.mp c2)
  rcases (show o.toInt = 26 ∨ o.toInt = 27 ∨ o.toInt = 28 by omega) with e | e | e
  · have e2 : o = 26 := Int32.toInt_inj.mp (e.trans (show ((26 : Nat) : Int) = (26 : Int32).toInt by decide))
    subst e2
    rfl
  · have e2 : o = 27 := Int32.toInt_inj.mp (e.trans (show ((27 : Nat) : Int) = (27 : Int32).toInt by decide))
    subst e2
    rfl
  · have e2 : o = 28 := Int32.toInt_inj.mp (e.trans (show ((28 : Nat) : Int) = (28 : Int32).toInt by decide))
    subst e2
    rfl
theorem op_new (c : o = 12) : p_op ops as k om pm i o v q = p_new q i v := by
  subst c
  rfl
theorem op_call (c : o = 33) : p_op ops as k om pm i o v q = p_33 k pm v q := by
  subst c
  rfl
theorem op_made (c1 : o > 11) (c2 : ¬ o > 13) (c3 : ¬ o = 12) : p_op ops as k om pm i o v q = p_made ops as om q v := by
  have z11 : (11 : Int32).toInt = 11 := by decide
  have z13 : (13 : Int32).toInt = 13 := by decide
  have c1x : (11 : Int32).toInt < o.toInt := Int32.lt_iff_toInt_lt.mp c1
  have c2x : o.toInt ≤ (13 : Int32).toInt := Int32.le_iff_toInt_le.mp (Int32.not_lt.mp c2)
  have c4 : ¬ o.toInt = 12 := fun z => c3 (Int32.toInt_inj.mp (z.trans (show (12 : Int) = (12 : Int32).toInt by decide)))
  have e : o.toInt = 13 := by omega
  have e2 : o = 13 := Int32.toInt_inj.mp (e.trans (show ((13 : Nat) : Int) = (13 : Int32).toInt by decide))
  subst e2
  rfl
theorem op_els (c1 : o > 28) (c2 : o ≤ 34) (c3 : ¬ o = 33) : p_op ops as k om pm i o v q = f_els om o v q := by
  have z28 : (28 : Int32).toInt = 28 := by decide
  have z34 : (34 : Int32).toInt = 34 := by decide
  have c1x : (28 : Int32).toInt < o.toInt := Int32.lt_iff_toInt_lt.mp c1
  have c2x : o.toInt ≤ (34 : Int32).toInt := Int32.le_iff_toInt_le.mp c2
  have c4 : ¬ o.toInt = 33 := fun z => c3 (Int32.toInt_inj.mp (z.trans (show (33 : Int) = (33 : Int32).toInt by decide)))
  rcases (show o.toInt = 29 ∨ o.toInt = 30 ∨ o.toInt = 31 ∨ o.toInt = 32 ∨ o.toInt = 34 by omega) with e | e | e | e | e
  · have e2 : o = 29 := Int32.toInt_inj.mp (e.trans (show ((29 : Nat) : Int) = (29 : Int32).toInt by decide))
    subst e2
    rfl
  · have e2 : o = 30 := Int32.toInt_inj.mp (e.trans (show ((30 : Nat) : Int) = (30 : Int32).toInt by decide))
    subst e2
    rfl
  · have e2 : o = 31 := Int32.toInt_inj.mp (e.trans (show ((31 : Nat) : Int) = (31 : Int32).toInt by decide))
    subst e2
    rfl
  · have e2 : o = 32 := Int32.toInt_inj.mp (e.trans (show ((32 : Nat) : Int) = (32 : Int32).toInt by decide))
    subst e2
    rfl
  · have e2 : o = 34 := Int32.toInt_inj.mp (e.trans (show ((34 : Nat) : Int) = (34 : Int32).toInt by decide))
    subst e2
    rfl
theorem op_bad (c : o < 0 ∨ ¬ o ≤ 34) : p_op ops as k om pm i o v q = none := by
  have z0 : (0 : Int32).toInt = 0 := by decide
  have z34 : (34 : Int32).toInt = 34 := by decide
  rw [Int32.lt_iff_toInt_lt, Int32.le_iff_toInt_le] at c
  cases e : p_op ops as k om pm i o v q with
  | none => rfl
  | some z =>
    have := p_op_pos e
    omega
theorem leads_lo {n : Int32} (c : ¬ o > n) (hn : n.toInt ≤ 28) : r_leads o = false := by
  have c := Int32.le_iff_toInt_le.mp (Int32.not_lt.mp c)
  have y29 : (29 : Int64).toInt = 29 := by decide
  cases e : r_leads o with
  | false => rfl
  | true =>
    unfold r_leads at e
    rw [in_iff, y29] at e
    omega
theorem els_u {u y : Int32} (c1 : o > 28) (c2 : o ≤ 34) (c3 : ¬ o = 33) (hy : y = -1) (eu : u = if o = 32 ∨ o = 34 then y else v.toInt32) : u = if r_leads o = true then v.toInt32 else -1 := by
  have z28 : (28 : Int32).toInt = 28 := by decide
  have z34 : (34 : Int32).toInt = 34 := by decide
  have c1x : (28 : Int32).toInt < o.toInt := Int32.lt_iff_toInt_lt.mp c1
  have c2x : o.toInt ≤ (34 : Int32).toInt := Int32.le_iff_toInt_le.mp c2
  have c4 : ¬ o.toInt = 33 := fun z => c3 (Int32.toInt_inj.mp (z.trans (show (33 : Int) = (33 : Int32).toInt by decide)))
  rw [eu, hy]
  rcases (show o.toInt = 29 ∨ o.toInt = 30 ∨ o.toInt = 31 ∨ o.toInt = 32 ∨ o.toInt = 34 by omega) with e | e | e | e | e
  · have e2 : o = 29 := Int32.toInt_inj.mp (e.trans (show ((29 : Nat) : Int) = (29 : Int32).toInt by decide))
    subst e2
    rfl
  · have e2 : o = 30 := Int32.toInt_inj.mp (e.trans (show ((30 : Nat) : Int) = (30 : Int32).toInt by decide))
    subst e2
    rfl
  · have e2 : o = 31 := Int32.toInt_inj.mp (e.trans (show ((31 : Nat) : Int) = (31 : Int32).toInt by decide))
    subst e2
    rfl
  · have e2 : o = 32 := Int32.toInt_inj.mp (e.trans (show ((32 : Nat) : Int) = (32 : Int32).toInt by decide))
    subst e2
    rfl
  · have e2 : o = 34 := Int32.toInt_inj.mp (e.trans (show ((34 : Nat) : Int) = (34 : Int32).toInt by decide))
    subst e2
    rfl
theorem last_t (c : o = 29 ∨ o = 32 ∨ o = 34) : r_last o = true := by
  rcases c with rfl | rfl | rfl <;> rfl
theorem last_f (c1 : ¬ o = 29) (c2 : ¬ o = 32) (c3 : ¬ o = 34) : r_last o = false := by
  unfold r_last
  rw [decide_eq_false c1, decide_eq_false c2, decide_eq_false c3]
  rfl
end OpF
set_option maxHeartbeats 4000000 in
set_option maxRecDepth 100000 in
theorem k_F8_finishes (Γ : mG) (l : Launch) (L : mI → Nat) (x : CS) (h : Nat → Int32) (d : Nat) (cm om : Nat) (v : Int64) (hd : d ≤ 8) (ok : okP (h, d)) (hI : CInv x) (hm : cm < cN x) (hom : x.1 (cm + 2) 0 4 = nI om) (ho40 : om ≤ 40) : mMet Γ l yX8_finishes cX8_finishes 6 (some .boolean) { frames := 2, cells := 0, slots := 0, locals := 44 } [.ref (L (nm 0 7)), .ref (L (nm (cm + 2) 0)), .long v] L (cM Γ L (sP x 0 8 (h, d))) (mQi Γ (mFz Γ L x 0 8 (p_made (x.2.1 (cm + 2) 1) (x.2.2.1 (cm + 2) 2) om (h, d) v))) := by
  refine m_start (by decide) (Nat.le_of_ble_eq_true rfl) ?_
  intro p e s m args below meth c A ls X hr hlk hnm hw hS hl
  have hx := X.1.1
  have hb := X.1.2.1
  have hl : lv_has ls 6 [(0, .ref (L (nm 0 7))), (1, .ref (L (nm (cm + 2) 0))), (2, .long v)] := hl
  refine lv_aload_n hx hb dX8_finishes_0 rfl (lv_at hl 0 rfl) ?_
  refine s_get (a := 0) (b := 7) (ci := 6) X hw rfl rfl gX8 0 (by decide) fl_X8_10 rfl rfl dX8_finishes_1 ?_
  refine m_calli (m_runV (i := nm 0 8) (ci := 4) (As := []) (rest := []) X (k_F6_popOne Γ l L x 0 8 h d  pO8 (by omega)) v_X6_popOne ml_X8_98 hw hS (p_obj Γ L (c := sP x 0 8 (h, d)) pO8) rfl rfl rfl hl.1 ⟨Nat.le_of_ble_eq_true rfl, Nat.le_of_ble_eq_true rfl⟩ (Nat.le_of_ble_eq_true rfl) ⟨Nat.le_of_ble_eq_true rfl, Nat.le_of_ble_eq_true rfl⟩ dX8_finishes_4) hS (fun r_1 L1 M1 H locs hp_1 hw hS => ?_)
  obtain ⟨e1, er_1, e2⟩ := hp_1
  rw [e1, e2] at hw; clear e1 e2
  by_cases po_1 : p_one (h, d) 0 = true
  · rw [f_one_y po_1] at er_1 hw
    have er_1 : r_1 = h (7 + d) := er_1
    subst er_1
    have hpos_1 : 0 < d := f_one_y_p po_1
    have hw : mW Γ.1 vwCl A L (cM Γ L (sP x 0 8 (h, d - 1))) H := hw
    have ok_1 : okP (h, d - 1) := ok_dropn (q := (h, d)) (n := 1) ok
    refine lv_istore (lv' := [(4, .int (h (7 + d))), (0, .ref (L (nm 0 7))), (1, .ref (L (nm (cm + 2) 0))), (2, .long v)]) hx hb dX8_finishes_7 hl (by decide) rfl (fun ls hl => ?_)
    refine lv_lload_n hx hb dX8_finishes_9 rfl (lv_at hl 3 rfl) ?_
    refine m_calli (m_runS (As := [.long v]) (rest := []) X (k_X3_isClass Γ l L (cM Γ L (sP x 0 8 (h, d - 1))) v) s_X3_isClass ml_X8_118 hw hS rfl hl.1 ⟨Nat.le_of_ble_eq_true rfl, Nat.le_of_ble_eq_true rfl⟩ (Nat.le_of_ble_eq_true rfl) ⟨Nat.le_of_ble_eq_true rfl, Nat.le_of_ble_eq_true rfl⟩ dX8_finishes_10) hS (fun r_2 L1 M1 H locs hp_2 hw hS => ?_)
    obtain ⟨rfl, e1, e2⟩ := hp_2
    rw [e1, e2] at hw; clear e1 e2
    refine lv_if_eq (tgt := 24) hx hb dX8_finishes_13 (by decide) (fun c_3 => ?_) (fun c_3 => ?_)
    · skip
      have c_3 := bI_f c_3
      refine lv_iconst (v := 0) hx hb dX8_finishes_24 (by decide) ?_
      exact m_zret (b := false) X hr hlk hw hS (Nat.le_of_ble_eq_true rfl) (Nat.le_of_ble_eq_true rfl) rfl ⟨(h, d - 1), by show d - 1 ≤ 8; omega, rfl, rfl, (by unfold p_made; first | (rw [if_neg (fun z9 => (show ¬ r_isIn v 1 5 = true from (fun z9 => absurd (show k_cls v = true from z9) (by rw [show k_cls v = false by assumption]; decide))) z9.1)]; exact mFo.n) | (rw [if_neg (fun z9 => unm_no ho40 (show k_unm (h (7 + d)) = false by assumption) z9.2.2.1)]; exact mFo.n) | (rw [if_neg (fun z9 => absurd (show r_isM om (h (7 + d) - 100) = true from z9.2.2.1) (by rw [← hasI_isM hom ho40, ← hasI_x (q := (h, d - 1)), show c_hasI (sP x 0 8 (h, d - 1)) cm (h (7 + d) - 100).toInt64 = false by assumption]; decide))]; exact mFo.n) | (rw [if_neg (fun z9 => absurd (show x.2.1 (cm + 2) 1 (h (7 + d) - 100).toNatClampNeg = 12 from z9.2.2.2.1) (by rw [ek, nI_clamp (by omega)]; assumption))]; exact mFo.n) | (rw [if_neg (fun z9 => absurd (show x.2.2.1 (cm + 2) 2 (h (7 + d) - 100).toNatClampNeg = v from z9.2.2.2.2) (by rw [ek, nI_clamp (by omega)]; assumption))]; exact mFo.n))⟩ dX8_finishes_25
    · skip
      have c_3 := bI_t c_3
      refine lv_iload hx hb dX8_finishes_16 (lv_at hl 0 rfl) ?_
      refine m_calli (m_runS (As := [.int (h (7 + d))]) (rest := []) X (k_X3_isUnmade Γ l L (cM Γ L (sP x 0 8 (h, d - 1))) (h (7 + d))) s_X3_isUnmade ml_X8_127 hw hS rfl hl.1 ⟨Nat.le_of_ble_eq_true rfl, Nat.le_of_ble_eq_true rfl⟩ (Nat.le_of_ble_eq_true rfl) ⟨Nat.le_of_ble_eq_true rfl, Nat.le_of_ble_eq_true rfl⟩ dX8_finishes_18) hS (fun r_4 L1 M1 H locs hp_4 hw hS => ?_)
      obtain ⟨rfl, e1, e2⟩ := hp_4
      rw [e1, e2] at hw; clear e1 e2
      refine lv_if_ne (tgt := 26) hx hb dX8_finishes_21 (by decide) (fun c_5 => ?_) (fun c_5 => ?_)
      · skip
        have c_5 := bI_t c_5
        refine lv_iload hx hb dX8_finishes_26 (lv_at hl 0 rfl) ?_
        refine lv_bipush (v := 100) hx hb dX8_finishes_28 (by decide) ?_
        refine lv_isub hx hb dX8_finishes_30 ?_
        refine lv_istore (lv' := [(5, .int ((h (7 + d)) - 100)), (4, .int (h (7 + d))), (0, .ref (L (nm 0 7))), (1, .ref (L (nm (cm + 2) 0))), (2, .long v)]) hx hb dX8_finishes_31 hl (by decide) rfl (fun ls hl => ?_)
        refine lv_aload_n hx hb dX8_finishes_33 rfl (lv_at hl 3 rfl) ?_
        refine lv_iload hx hb dX8_finishes_34 (lv_at hl 0 rfl) ?_
        refine lv_i2l (v := ((h (7 + d)) - 100).toInt64) hx hb dX8_finishes_36 rfl ?_
        refine m_calli (m_runV (i := nm (cm + 2) 0) (ci := 0) (As := [.long (((h (7 + d)) - 100).toInt64)]) (rest := []) X (k_X0_hasInstruction Γ l L (sP x 0 8 (h, d - 1)) cm (((h (7 + d)) - 100).toInt64) hm) v_X0_hasInstruction ml_X8_16 hw hS (c_cell hm 0 _ _ _) rfl rfl rfl hl.1 ⟨Nat.le_of_ble_eq_true rfl, Nat.le_of_ble_eq_true rfl⟩ (Nat.le_of_ble_eq_true rfl) ⟨Nat.le_of_ble_eq_true rfl, Nat.le_of_ble_eq_true rfl⟩ dX8_finishes_37) hS (fun r_6 L1 M1 H locs hp_6 hw hS => ?_)
        obtain ⟨rfl, e1, e2⟩ := hp_6
        rw [e1, e2] at hw; clear e1 e2
        refine lv_if_eq (tgt := 67) hx hb dX8_finishes_40 (by decide) (fun c_7 => ?_) (fun c_7 => ?_)
        · skip
          have c_7 := bI_f c_7
          refine lv_iconst (v := 0) hx hb dX8_finishes_67 (by decide) ?_
          exact m_zret (b := false) X hr hlk hw hS (Nat.le_of_ble_eq_true rfl) (Nat.le_of_ble_eq_true rfl) rfl ⟨(h, d - 1), by show d - 1 ≤ 8; omega, rfl, rfl, (by unfold p_made; first | (rw [if_neg (fun z9 => (show ¬ r_isIn v 1 5 = true from (fun z9 => absurd (show k_cls v = true from z9) (by rw [show k_cls v = false by assumption]; decide))) z9.1)]; exact mFo.n) | (rw [if_neg (fun z9 => unm_no ho40 (show k_unm (h (7 + d)) = false by assumption) z9.2.2.1)]; exact mFo.n) | (rw [if_neg (fun z9 => absurd (show r_isM om (h (7 + d) - 100) = true from z9.2.2.1) (by rw [← hasI_isM hom ho40, ← hasI_x (q := (h, d - 1)), show c_hasI (sP x 0 8 (h, d - 1)) cm (h (7 + d) - 100).toInt64 = false by assumption]; decide))]; exact mFo.n) | (rw [if_neg (fun z9 => absurd (show x.2.1 (cm + 2) 1 (h (7 + d) - 100).toNatClampNeg = 12 from z9.2.2.2.1) (by rw [ek, nI_clamp (by omega)]; assumption))]; exact mFo.n) | (rw [if_neg (fun z9 => absurd (show x.2.2.1 (cm + 2) 2 (h (7 + d) - 100).toNatClampNeg = v from z9.2.2.2.2) (by rw [ek, nI_clamp (by omega)]; assumption))]; exact mFo.n))⟩ dX8_finishes_68
        · skip
          have c_7 := bI_t c_7
          obtain ⟨kn, hkn, ek⟩ := hasI_nat (CInv.putP (a := 0) (b := 8) (q := (h, d - 1)) hI pO8 (by show d - 1 ≤ 8; omega)) hm c_7
          refine lv_aload_n hx hb dX8_finishes_43 rfl (lv_at hl 3 rfl) ?_
          refine s_get (a := cm + 2) (b := 0) (ci := 0) X hw (c_cell hm 0 _ _ _) rfl gX0 2 (by decide) fl_X8_22 rfl rfl dX8_finishes_44 ?_
          refine lv_iload hx hb dX8_finishes_47 (lv_at hl 0 rfl) ?_
          refine s_iald (n := 40) (k := kn) X hw (c_cell hm 1 _ _ _) ek (by omega) (by decide) dX8_finishes_49 ?_
          refine lv_bipush (v := 12) hx hb dX8_finishes_50 (by decide) ?_
          refine lv_icmp_ne (tgt := 67) hx hb dX8_finishes_52 (by decide) (fun c_8 => ?_) (fun c_8 => ?_)
          · skip
            refine lv_iconst (v := 0) hx hb dX8_finishes_67 (by decide) ?_
            exact m_zret (b := false) X hr hlk hw hS (Nat.le_of_ble_eq_true rfl) (Nat.le_of_ble_eq_true rfl) rfl ⟨(h, d - 1), by show d - 1 ≤ 8; omega, rfl, rfl, (by unfold p_made; first | (rw [if_neg (fun z9 => (show ¬ r_isIn v 1 5 = true from (fun z9 => absurd (show k_cls v = true from z9) (by rw [show k_cls v = false by assumption]; decide))) z9.1)]; exact mFo.n) | (rw [if_neg (fun z9 => unm_no ho40 (show k_unm (h (7 + d)) = false by assumption) z9.2.2.1)]; exact mFo.n) | (rw [if_neg (fun z9 => absurd (show r_isM om (h (7 + d) - 100) = true from z9.2.2.1) (by rw [← hasI_isM hom ho40, ← hasI_x (q := (h, d - 1)), show c_hasI (sP x 0 8 (h, d - 1)) cm (h (7 + d) - 100).toInt64 = false by assumption]; decide))]; exact mFo.n) | (rw [if_neg (fun z9 => absurd (show x.2.1 (cm + 2) 1 (h (7 + d) - 100).toNatClampNeg = 12 from z9.2.2.2.1) (by rw [ek, nI_clamp (by omega)]; assumption))]; exact mFo.n) | (rw [if_neg (fun z9 => absurd (show x.2.2.1 (cm + 2) 2 (h (7 + d) - 100).toNatClampNeg = v from z9.2.2.2.2) (by rw [ek, nI_clamp (by omega)]; assumption))]; exact mFo.n))⟩ dX8_finishes_68
          · skip
            refine lv_aload_n hx hb dX8_finishes_55 rfl (lv_at hl 3 rfl) ?_
            refine s_get (a := cm + 2) (b := 0) (ci := 0) X hw (c_cell hm 0 _ _ _) rfl gX0 3 (by decide) fl_X8_26 rfl rfl dX8_finishes_56 ?_
            refine lv_iload hx hb dX8_finishes_59 (lv_at hl 0 rfl) ?_
            refine s_lald (n := 40) (k := kn) X hw (c_cell hm 2 _ _ _) ek (by omega) (by decide) dX8_finishes_61 ?_
            refine lv_lload_n hx hb dX8_finishes_62 rfl (lv_at hl 4 rfl) ?_
            refine m_lcmp_eq (tgt := 69) hx hb dX8_finishes_63 dX8_finishes_64 (by decide) (fun c_9 => ?_) (fun c_9 => ?_)
            · skip
              refine lv_aload_n hx hb dX8_finishes_69 rfl (lv_at hl 2 rfl) ?_
              refine s_get (a := 0) (b := 7) (ci := 6) X hw rfl rfl gX8 0 (by decide) fl_X8_10 rfl rfl dX8_finishes_70 ?_
              refine lv_iload hx hb dX8_finishes_73 (lv_at hl 1 rfl) ?_
              refine lv_bipush (v := 10) hx hb dX8_finishes_75 (by decide) ?_
              refine lv_lload_n hx hb dX8_finishes_77 rfl (lv_at hl 4 rfl) ?_
              refine lv_l2i (v := v.toInt32) hx hb dX8_finishes_78 rfl ?_
              refine lv_iadd hx hb dX8_finishes_79 ?_
              refine m_callv (m_runV (i := nm 0 8) (ci := 4) (As := [.int (h (7 + d)), .int (10 + v.toInt32)]) (rest := []) X (k_F6_replace Γ l L x 0 8 h (d - 1) (h (7 + d)) (10 + v.toInt32) pO8 (by omega)) v_X6_replace ml_X8_124 hw hS (p_obj Γ L (c := sP x 0 8 (h, d - 1)) pO8) rfl rfl rfl hl.1 ⟨Nat.le_of_ble_eq_true rfl, Nat.le_of_ble_eq_true rfl⟩ (Nat.le_of_ble_eq_true rfl) ⟨Nat.le_of_ble_eq_true rfl, Nat.le_of_ble_eq_true rfl⟩ dX8_finishes_80) hS (fun L1 M1 H locs hp_10 hw hS => ?_)
              obtain ⟨e1, e2⟩ := hp_10
              rw [e1, e2] at hw; clear e1 e2
              refine lv_iconst (v := 1) hx hb dX8_finishes_83 (by decide) ?_
              exact m_zret (b := true) X hr hlk hw hS (Nat.le_of_ble_eq_true rfl) (Nat.le_of_ble_eq_true rfl) rfl ⟨(p_repl h (h (7 + d)) (10 + v.toInt32) (8 + (d - 1)), d - 1), by show d - 1 ≤ 8; omega, rfl, rfl, (by unfold p_made; rw [if_pos ⟨(show r_isIn v 1 5 = true from (show k_cls v = true by assumption)), show ¬ d = 0 by omega, show r_isM om (h (7 + d) - 100) = true by rw [← hasI_isM hom ho40, ← hasI_x (q := (h, d - 1))]; assumption, show x.2.1 (cm + 2) 1 (h (7 + d) - 100).toNatClampNeg = 12 by rw [ek, nI_clamp (by omega)]; assumption, show x.2.2.1 (cm + 2) 2 (h (7 + d) - 100).toNatClampNeg = v by rw [ek, nI_clamp (by omega)]; assumption⟩]; exact mFo.s)⟩ dX8_finishes_84
            · skip
              refine lv_iconst (v := 0) hx hb dX8_finishes_67 (by decide) ?_
              exact m_zret (b := false) X hr hlk hw hS (Nat.le_of_ble_eq_true rfl) (Nat.le_of_ble_eq_true rfl) rfl ⟨(h, d - 1), by show d - 1 ≤ 8; omega, rfl, rfl, (by unfold p_made; first | (rw [if_neg (fun z9 => (show ¬ r_isIn v 1 5 = true from (fun z9 => absurd (show k_cls v = true from z9) (by rw [show k_cls v = false by assumption]; decide))) z9.1)]; exact mFo.n) | (rw [if_neg (fun z9 => unm_no ho40 (show k_unm (h (7 + d)) = false by assumption) z9.2.2.1)]; exact mFo.n) | (rw [if_neg (fun z9 => absurd (show r_isM om (h (7 + d) - 100) = true from z9.2.2.1) (by rw [← hasI_isM hom ho40, ← hasI_x (q := (h, d - 1)), show c_hasI (sP x 0 8 (h, d - 1)) cm (h (7 + d) - 100).toInt64 = false by assumption]; decide))]; exact mFo.n) | (rw [if_neg (fun z9 => absurd (show x.2.1 (cm + 2) 1 (h (7 + d) - 100).toNatClampNeg = 12 from z9.2.2.2.1) (by rw [ek, nI_clamp (by omega)]; assumption))]; exact mFo.n) | (rw [if_neg (fun z9 => absurd (show x.2.2.1 (cm + 2) 2 (h (7 + d) - 100).toNatClampNeg = v from z9.2.2.2.2) (by rw [ek, nI_clamp (by omega)]; assumption))]; exact mFo.n))⟩ dX8_finishes_68
      · skip
        have c_5 := bI_f c_5
        refine lv_iconst (v := 0) hx hb dX8_finishes_24 (by decide) ?_
        exact m_zret (b := false) X hr hlk hw hS (Nat.le_of_ble_eq_true rfl) (Nat.le_of_ble_eq_true rfl) rfl ⟨(h, d - 1), by show d - 1 ≤ 8; omega, rfl, rfl, (by unfold p_made; first | (rw [if_neg (fun z9 => (show ¬ r_isIn v 1 5 = true from (fun z9 => absurd (show k_cls v = true from z9) (by rw [show k_cls v = false by assumption]; decide))) z9.1)]; exact mFo.n) | (rw [if_neg (fun z9 => unm_no ho40 (show k_unm (h (7 + d)) = false by assumption) z9.2.2.1)]; exact mFo.n) | (rw [if_neg (fun z9 => absurd (show r_isM om (h (7 + d) - 100) = true from z9.2.2.1) (by rw [← hasI_isM hom ho40, ← hasI_x (q := (h, d - 1)), show c_hasI (sP x 0 8 (h, d - 1)) cm (h (7 + d) - 100).toInt64 = false by assumption]; decide))]; exact mFo.n) | (rw [if_neg (fun z9 => absurd (show x.2.1 (cm + 2) 1 (h (7 + d) - 100).toNatClampNeg = 12 from z9.2.2.2.1) (by rw [ek, nI_clamp (by omega)]; assumption))]; exact mFo.n) | (rw [if_neg (fun z9 => absurd (show x.2.2.1 (cm + 2) 2 (h (7 + d) - 100).toNatClampNeg = v from z9.2.2.2.2) (by rw [ek, nI_clamp (by omega)]; assumption))]; exact mFo.n))⟩ dX8_finishes_25
  · rw [f_one_x po_1] at er_1 hw
    have er_1 : r_1 = 0 := er_1
    subst er_1
    have hw : mW Γ.1 vwCl A L (cM Γ L (sP x 0 8 (h, d))) H := hw
    refine lv_istore (lv' := [(4, .int 0), (0, .ref (L (nm 0 7))), (1, .ref (L (nm (cm + 2) 0))), (2, .long v)]) hx hb dX8_finishes_7 hl (by decide) rfl (fun ls hl => ?_)
    refine lv_lload_n hx hb dX8_finishes_9 rfl (lv_at hl 3 rfl) ?_
    refine m_calli (m_runS (As := [.long v]) (rest := []) X (k_X3_isClass Γ l L (cM Γ L (sP x 0 8 (h, d))) v) s_X3_isClass ml_X8_118 hw hS rfl hl.1 ⟨Nat.le_of_ble_eq_true rfl, Nat.le_of_ble_eq_true rfl⟩ (Nat.le_of_ble_eq_true rfl) ⟨Nat.le_of_ble_eq_true rfl, Nat.le_of_ble_eq_true rfl⟩ dX8_finishes_10) hS (fun r_11 L1 M1 H locs hp_11 hw hS => ?_)
    obtain ⟨rfl, e1, e2⟩ := hp_11
    rw [e1, e2] at hw; clear e1 e2
    refine lv_if_eq (tgt := 24) hx hb dX8_finishes_13 (by decide) (fun c_12 => ?_) (fun c_12 => ?_)
    · skip
      have c_12 := bI_f c_12
      refine lv_iconst (v := 0) hx hb dX8_finishes_24 (by decide) ?_
      exact m_zret (b := false) X hr hlk hw hS (Nat.le_of_ble_eq_true rfl) (Nat.le_of_ble_eq_true rfl) rfl ⟨(h, d), by show d ≤ 8; omega, rfl, rfl, (by first | (exact absurd (show k_unm 0 = true by assumption) (by decide)) | (rw [made_n ho40 po_1]; exact mFo.n))⟩ dX8_finishes_25
    · skip
      have c_12 := bI_t c_12
      refine lv_iload hx hb dX8_finishes_16 (lv_at hl 0 rfl) ?_
      refine m_calli (m_runS (As := [.int 0]) (rest := []) X (k_X3_isUnmade Γ l L (cM Γ L (sP x 0 8 (h, d))) 0) s_X3_isUnmade ml_X8_127 hw hS rfl hl.1 ⟨Nat.le_of_ble_eq_true rfl, Nat.le_of_ble_eq_true rfl⟩ (Nat.le_of_ble_eq_true rfl) ⟨Nat.le_of_ble_eq_true rfl, Nat.le_of_ble_eq_true rfl⟩ dX8_finishes_18) hS (fun r_13 L1 M1 H locs hp_13 hw hS => ?_)
      obtain ⟨rfl, e1, e2⟩ := hp_13
      rw [e1, e2] at hw; clear e1 e2
      refine lv_if_ne (tgt := 26) hx hb dX8_finishes_21 (by decide) (fun c_14 => ?_) (fun c_14 => ?_)
      · skip
        have c_14 := bI_t c_14
        refine lv_iload hx hb dX8_finishes_26 (lv_at hl 0 rfl) ?_
        refine lv_bipush (v := 100) hx hb dX8_finishes_28 (by decide) ?_
        refine lv_isub hx hb dX8_finishes_30 ?_
        refine lv_istore (lv' := [(5, .int (0 - 100)), (4, .int 0), (0, .ref (L (nm 0 7))), (1, .ref (L (nm (cm + 2) 0))), (2, .long v)]) hx hb dX8_finishes_31 hl (by decide) rfl (fun ls hl => ?_)
        refine lv_aload_n hx hb dX8_finishes_33 rfl (lv_at hl 3 rfl) ?_
        refine lv_iload hx hb dX8_finishes_34 (lv_at hl 0 rfl) ?_
        refine lv_i2l (v := (0 - 100 : Int32).toInt64) hx hb dX8_finishes_36 rfl ?_
        refine m_calli (m_runV (i := nm (cm + 2) 0) (ci := 0) (As := [.long ((0 - 100 : Int32).toInt64)]) (rest := []) X (k_X0_hasInstruction Γ l L (sP x 0 8 (h, d)) cm ((0 - 100 : Int32).toInt64) hm) v_X0_hasInstruction ml_X8_16 hw hS (c_cell hm 0 _ _ _) rfl rfl rfl hl.1 ⟨Nat.le_of_ble_eq_true rfl, Nat.le_of_ble_eq_true rfl⟩ (Nat.le_of_ble_eq_true rfl) ⟨Nat.le_of_ble_eq_true rfl, Nat.le_of_ble_eq_true rfl⟩ dX8_finishes_37) hS (fun r_15 L1 M1 H locs hp_15 hw hS => ?_)
        obtain ⟨rfl, e1, e2⟩ := hp_15
        rw [e1, e2] at hw; clear e1 e2
        refine lv_if_eq (tgt := 67) hx hb dX8_finishes_40 (by decide) (fun c_16 => ?_) (fun c_16 => ?_)
        · skip
          have c_16 := bI_f c_16
          refine lv_iconst (v := 0) hx hb dX8_finishes_67 (by decide) ?_
          exact m_zret (b := false) X hr hlk hw hS (Nat.le_of_ble_eq_true rfl) (Nat.le_of_ble_eq_true rfl) rfl ⟨(h, d), by show d ≤ 8; omega, rfl, rfl, (by first | (exact absurd (show k_unm 0 = true by assumption) (by decide)) | (rw [made_n ho40 po_1]; exact mFo.n))⟩ dX8_finishes_68
        · skip
          have c_16 := bI_t c_16
          obtain ⟨kn, hkn, ek⟩ := hasI_nat (CInv.putP (a := 0) (b := 8) (q := (h, d)) hI pO8 (by show d ≤ 8; omega)) hm c_16
          refine lv_aload_n hx hb dX8_finishes_43 rfl (lv_at hl 3 rfl) ?_
          refine s_get (a := cm + 2) (b := 0) (ci := 0) X hw (c_cell hm 0 _ _ _) rfl gX0 2 (by decide) fl_X8_22 rfl rfl dX8_finishes_44 ?_
          refine lv_iload hx hb dX8_finishes_47 (lv_at hl 0 rfl) ?_
          refine s_iald (n := 40) (k := kn) X hw (c_cell hm 1 _ _ _) ek (by omega) (by decide) dX8_finishes_49 ?_
          refine lv_bipush (v := 12) hx hb dX8_finishes_50 (by decide) ?_
          refine lv_icmp_ne (tgt := 67) hx hb dX8_finishes_52 (by decide) (fun c_17 => ?_) (fun c_17 => ?_)
          · skip
            refine lv_iconst (v := 0) hx hb dX8_finishes_67 (by decide) ?_
            exact m_zret (b := false) X hr hlk hw hS (Nat.le_of_ble_eq_true rfl) (Nat.le_of_ble_eq_true rfl) rfl ⟨(h, d), by show d ≤ 8; omega, rfl, rfl, (by first | (exact absurd (show k_unm 0 = true by assumption) (by decide)) | (rw [made_n ho40 po_1]; exact mFo.n))⟩ dX8_finishes_68
          · skip
            refine lv_aload_n hx hb dX8_finishes_55 rfl (lv_at hl 3 rfl) ?_
            refine s_get (a := cm + 2) (b := 0) (ci := 0) X hw (c_cell hm 0 _ _ _) rfl gX0 3 (by decide) fl_X8_26 rfl rfl dX8_finishes_56 ?_
            refine lv_iload hx hb dX8_finishes_59 (lv_at hl 0 rfl) ?_
            refine s_lald (n := 40) (k := kn) X hw (c_cell hm 2 _ _ _) ek (by omega) (by decide) dX8_finishes_61 ?_
            refine lv_lload_n hx hb dX8_finishes_62 rfl (lv_at hl 4 rfl) ?_
            refine m_lcmp_eq (tgt := 69) hx hb dX8_finishes_63 dX8_finishes_64 (by decide) (fun c_18 => ?_) (fun c_18 => ?_)
            · skip
              refine lv_aload_n hx hb dX8_finishes_69 rfl (lv_at hl 2 rfl) ?_
              refine s_get (a := 0) (b := 7) (ci := 6) X hw rfl rfl gX8 0 (by decide) fl_X8_10 rfl rfl dX8_finishes_70 ?_
              refine lv_iload hx hb dX8_finishes_73 (lv_at hl 1 rfl) ?_
              refine lv_bipush (v := 10) hx hb dX8_finishes_75 (by decide) ?_
              refine lv_lload_n hx hb dX8_finishes_77 rfl (lv_at hl 4 rfl) ?_
              refine lv_l2i (v := v.toInt32) hx hb dX8_finishes_78 rfl ?_
              refine lv_iadd hx hb dX8_finishes_79 ?_
              refine m_callv (m_runV (i := nm 0 8) (ci := 4) (As := [.int 0, .int (10 + v.toInt32)]) (rest := []) X (k_F6_replace Γ l L x 0 8 h d 0 (10 + v.toInt32) pO8 (by omega)) v_X6_replace ml_X8_124 hw hS (p_obj Γ L (c := sP x 0 8 (h, d)) pO8) rfl rfl rfl hl.1 ⟨Nat.le_of_ble_eq_true rfl, Nat.le_of_ble_eq_true rfl⟩ (Nat.le_of_ble_eq_true rfl) ⟨Nat.le_of_ble_eq_true rfl, Nat.le_of_ble_eq_true rfl⟩ dX8_finishes_80) hS (fun L1 M1 H locs hp_19 hw hS => ?_)
              obtain ⟨e1, e2⟩ := hp_19
              rw [e1, e2] at hw; clear e1 e2
              refine lv_iconst (v := 1) hx hb dX8_finishes_83 (by decide) ?_
              exact m_zret (b := true) X hr hlk hw hS (Nat.le_of_ble_eq_true rfl) (Nat.le_of_ble_eq_true rfl) rfl ⟨(p_repl h 0 (10 + v.toInt32) (8 + d), d), by show d ≤ 8; omega, rfl, rfl, (by first | (exact absurd (show k_unm 0 = true by assumption) (by decide)) | (rw [made_n ho40 po_1]; exact mFo.n))⟩ dX8_finishes_84
            · skip
              refine lv_iconst (v := 0) hx hb dX8_finishes_67 (by decide) ?_
              exact m_zret (b := false) X hr hlk hw hS (Nat.le_of_ble_eq_true rfl) (Nat.le_of_ble_eq_true rfl) rfl ⟨(h, d), by show d ≤ 8; omega, rfl, rfl, (by first | (exact absurd (show k_unm 0 = true by assumption) (by decide)) | (rw [made_n ho40 po_1]; exact mFo.n))⟩ dX8_finishes_68
      · skip
        have c_14 := bI_f c_14
        refine lv_iconst (v := 0) hx hb dX8_finishes_24 (by decide) ?_
        exact m_zret (b := false) X hr hlk hw hS (Nat.le_of_ble_eq_true rfl) (Nat.le_of_ble_eq_true rfl) rfl ⟨(h, d), by show d ≤ 8; omega, rfl, rfl, (by first | (exact absurd (show k_unm 0 = true by assumption) (by decide)) | (rw [made_n ho40 po_1]; exact mFo.n))⟩ dX8_finishes_25
set_option maxHeartbeats 4000000 in
set_option maxRecDepth 100000 in
theorem k_F8_calls (Γ : mG) (l : Launch) (L : mI → Nat) (x : CS) (h : Nat → Int32) (d : Nat) (cm : Nat) (pm : Nat → Nat) (v : Int64) (hd : d ≤ 8) (ok : okP (h, d)) (hI : CInv x) (hm : cm < cN x) (hpm : ∀ t, t < cN x → x.1 (t + 2) 0 1 = nI (pm t) ∧ pm t ≤ 4) : mMet Γ l yX8_calls cX8_calls 7 (some .boolean) { frames := 3, cells := 0, slots := 0, locals := 63 } [.ref (L (nm 0 7)), .ref (L (nm 0 1)), .ref (L (nm (cm + 2) 0)), .long v] L (cM Γ L (sP x 0 8 (h, d))) (mQi Γ (mFz Γ L x 0 8 (p_33 cm pm v (h, d)))) := by
  refine m_start (by decide) (Nat.le_of_ble_eq_true rfl) ?_
  intro p e s m args below meth c A ls X hr hlk hnm hw hS hl
  have hx := X.1.1
  have hb := X.1.2.1
  have hl : lv_has ls 7 [(0, .ref (L (nm 0 7))), (1, .ref (L (nm 0 1))), (2, .ref (L (nm (cm + 2) 0))), (3, .long v)] := hl
  refine lv_lload_n hx hb dX8_calls_0 rfl (lv_at hl 3 rfl) ?_
  refine lv_aload_n hx hb dX8_calls_1 rfl (lv_at hl 2 rfl) ?_
  refine s_get (a := cm + 2) (b := 0) (ci := 0) X hw (c_cell hm 0 _ _ _) rfl gX0 0 (by decide) fl_X8_142 rfl rfl dX8_calls_2 ?_
  refine lv_i2l (v := (nI cm).toInt64) hx hb dX8_calls_5 rfl ?_
  refine m_lcmp_ge (tgt := 18) hx hb dX8_calls_6 dX8_calls_7 (by decide) (fun c_1 => ?_) (fun c_1 => ?_)
  · skip
    refine lv_null hx hb dX8_calls_18 ?_
    refine lv_astoreN (lv' := [(5, .null), (0, .ref (L (nm 0 7))), (1, .ref (L (nm 0 1))), (2, .ref (L (nm (cm + 2) 0))), (3, .long v)]) hx hb dX8_calls_19 hl (by decide) rfl (fun ls hl => ?_)
    refine lv_aloadN hx hb dX8_calls_21 (lv_at hl 0 rfl) ?_
    refine lv_ifnonnullN hx hb dX8_calls_23 ?_
    refine lv_iconst (v := 0) hx hb dX8_calls_26 (by decide) ?_
    exact m_zret (b := false) X hr hlk hw hS (Nat.le_of_ble_eq_true rfl) (Nat.le_of_ble_eq_true rfl) rfl ⟨(h, d), by show d ≤ 8; omega, rfl, rfl, (by have hc9 : cm < 1000 := (by have := hI.1; omega); unfold p_33; rw [if_neg (by first | exact isL_no1 hc9 (by assumption) | exact isL_no2 (n := cN x) hc9 (by assumption) hm)]; exact mFo.n)⟩ dX8_calls_27
  · skip
    refine lv_aload_n hx hb dX8_calls_10 rfl (lv_at hl 1 rfl) ?_
    refine lv_lload_n hx hb dX8_calls_11 rfl (lv_at hl 3 rfl) ?_
    refine m_callq (m_runV (i := nm 0 1) (ci := 5) (As := [.long v]) (rest := []) X (k_X7_at Γ l L (sP x 0 8 (h, d)) v hI.1) v_X7_at ml_X8_145 hw hS rfl rfl rfl rfl hl.1 ⟨Nat.le_of_ble_eq_true rfl, Nat.le_of_ble_eq_true rfl⟩ (Nat.le_of_ble_eq_true rfl) ⟨Nat.le_of_ble_eq_true rfl, Nat.le_of_ble_eq_true rfl⟩ dX8_calls_12) hS (fun r_2 L1 M1 H locs hp_2 hw hS => ?_)
    obtain ⟨e1, e2, hq_2⟩ := hp_2
    rw [e1, e2] at hw; clear e1 e2
    rcases hq_2 with ⟨rfl, hno_2⟩ | ⟨k_2, hk_2, ev_2, rfl⟩
    · skip
      refine va_rf_none ?_
      refine lv_goto (tgt := 19) hx hb dX8_calls_15 (by decide) ?_
      refine lv_astoreN (lv' := [(5, .null), (0, .ref (L (nm 0 7))), (1, .ref (L (nm 0 1))), (2, .ref (L (nm (cm + 2) 0))), (3, .long v)]) hx hb dX8_calls_19 hl (by decide) rfl (fun ls hl => ?_)
      refine lv_aloadN hx hb dX8_calls_21 (lv_at hl 0 rfl) ?_
      refine lv_ifnonnullN hx hb dX8_calls_23 ?_
      refine lv_iconst (v := 0) hx hb dX8_calls_26 (by decide) ?_
      exact m_zret (b := false) X hr hlk hw hS (Nat.le_of_ble_eq_true rfl) (Nat.le_of_ble_eq_true rfl) rfl ⟨(h, d), by show d ≤ 8; omega, rfl, rfl, (by have hc9 : cm < 1000 := (by have := hI.1; omega); unfold p_33; rw [if_neg (by first | exact isL_no1 hc9 (by assumption) | exact isL_no2 (n := cN x) hc9 (by assumption) hm)]; exact mFo.n)⟩ dX8_calls_27
    · skip
      refine va_rf_some ?_
      have hlt_2 : k_2 < cm := at_lt ev_2 (by have := hI.1; have : cN (sP x 0 8 (h, d)) = cN x := rfl; omega) (by have := hI.1; omega) (by assumption)
      have KL : ∀ (n : Nat) (t : Nat) (j : Int32) (g : Nat → Int32) (dd : Nat) (H : Heap) (locs : List Loc) (ls : Array Slot), t + n = 4 → j = nI t → dd ≤ 8 → p_pops t (h, d) = some (g, dd) → okP (g, dd) → t ≤ pm k_2 → mW Γ.1 vwCl A L (cM Γ L (sP x 0 8 (g, dd))) H → va_S A s.heap H locs → lv_has ls 7 [(6, .int j), (5, .ref (L (nm (k_2 + 2) 0))), (0, .ref (L (nm 0 7)))] → W p l e { frames := 3, cells := 0, slots := 0, locals := 63 } s m args below meth c H locs 0 0 (MQ below (mQi Γ (mFz Γ L x 0 8 (p_33 cm pm v (h, d))) A) args s 0 0 A) (F0 m 31 ls []) := by
        intro n
        induction n with
        | zero =>
          intro t j g dd H locs ls f0 f1 f2 f3 f4 f5 hw hS hl
          have hpk := hpm k_2 hk_2
          refine lv_iload hx hb dX8_calls_31 (lv_at hl 0 rfl) ?_
          refine lv_aload hx hb dX8_calls_33 (lv_at hl 1 rfl) ?_
          refine s_get (a := k_2 + 2) (b := 0) (ci := 0) X hw (c_cell hk_2 0 _ _ _) rfl gX0 1 (by decide) fl_X8_151 rfl rfl dX8_calls_35 ?_
          refine lv_icmp_ge (tgt := 60) hx hb dX8_calls_38 (by decide) (fun c_3 => ?_) (fun c_3 => ?_)
          · skip
            have c_3n : t ≥ (pm k_2) := ngeT (a := t) (b := pm k_2) f1 ((sP_rdS (by omega)).trans hpk.1) (by omega) (by omega) c_3
            have c_3m : ¬ t < (pm k_2) := by omega
            refine lv_aload_n hx hb dX8_calls_60 rfl (lv_at hl 2 rfl) ?_
            refine s_get (a := 0) (b := 7) (ci := 6) X hw rfl rfl gX8 0 (by decide) fl_X8_10 rfl rfl dX8_calls_61 ?_
            refine lv_iconst (v := 1) hx hb dX8_calls_64 (by decide) ?_
            refine m_calli (m_runV (i := nm 0 8) (ci := 4) (As := [.int 1]) (rest := []) X (k_F6_push Γ l L x 0 8 g dd 1 pO8 (by omega)) v_X6_push ml_X8_74 hw hS (p_obj Γ L (c := sP x 0 8 (g, dd)) pO8) rfl rfl rfl hl.1 ⟨Nat.le_of_ble_eq_true rfl, Nat.le_of_ble_eq_true rfl⟩ (Nat.le_of_ble_eq_true rfl) ⟨Nat.le_of_ble_eq_true rfl, Nat.le_of_ble_eq_true rfl⟩ dX8_calls_65) hS (fun r_4 L1 M1 H locs hp_4 hw hS => ?_)
            obtain ⟨⟨h_4, d_4⟩, hd_4, e1, e2, hm_4⟩ := hp_4
            have hd_4 : d_4 ≤ 8 := hd_4
            rw [e1, e2] at hw; clear e1 e2
            have hm_4 : mFo (p_push (g, dd) 1) r_4 (h_4, d_4) := hm_4
            cases ho_4 : p_push (g, dd) 1 with
            | none =>
              rw [ho_4] at hm_4
              have hm_4 : r_4 = 0 := hm_4
              subst hm_4
              exact m_zret (b := false) X hr hlk hw hS (Nat.le_of_ble_eq_true rfl) (Nat.le_of_ble_eq_true rfl) rfl ⟨(h_4, d_4), by show d_4 ≤ 8; omega, rfl, rfl, (by have hL9 := isL_k (k := cm) ev_2 (by have := hI.1; omega) hlt_2; have hp9 : pm v.toInt32.toNatClampNeg = pm k_2 := (by rw [ev_2, i64_32, nI_clamp (by have := hI.1; omega)]); unfold p_33; rw [if_pos hL9, hp9]; first | (rw [b_s (show p_pops (pm k_2) (h, d) = some (g, dd) by rw [← show t = pm k_2 by omega]; exact f3), ho_4]; exact mFo.n) | (rw [b_n (pops_no (t := t) (by omega) (show (p_pops t (h, d)).bind _ = none by rw [b_s f3]; exact ho_4))]; exact mFo.n))⟩ dX8_calls_68
            | some z_4 =>
              rw [ho_4] at hm_4
              have hm_4 : r_4 = 1 ∧ (h_4, d_4) = z_4 := hm_4
              obtain ⟨e3, e4⟩ := hm_4
              subst e3; subst e4
              exact m_zret (b := true) X hr hlk hw hS (Nat.le_of_ble_eq_true rfl) (Nat.le_of_ble_eq_true rfl) rfl ⟨(h_4, d_4), by show d_4 ≤ 8; omega, rfl, rfl, (by have hL9 := isL_k (k := cm) ev_2 (by have := hI.1; omega) hlt_2; have hp9 : pm v.toInt32.toNatClampNeg = pm k_2 := (by rw [ev_2, i64_32, nI_clamp (by have := hI.1; omega)]); unfold p_33; rw [if_pos hL9, hp9]; first | (rw [b_s (show p_pops (pm k_2) (h, d) = some (g, dd) by rw [← show t = pm k_2 by omega]; exact f3), ho_4]; exact mFo.s) | (rw [b_n (pops_no (t := t) (by omega) (show (p_pops t (h, d)).bind _ = none by rw [b_s f3]; exact ho_4))]; exact mFo.n))⟩ dX8_calls_68
          · skip
            have c_3n : ¬ t ≥ (pm k_2) := ngeF (a := t) (b := pm k_2) f1 ((sP_rdS (by omega)).trans hpk.1) (by omega) (by omega) c_3
            have c_3m : t < (pm k_2) := by omega
            refine lv_aload_n hx hb dX8_calls_41 rfl (lv_at hl 2 rfl) ?_
            refine s_get (a := 0) (b := 7) (ci := 6) X hw rfl rfl gX8 0 (by decide) fl_X8_10 rfl rfl dX8_calls_42 ?_
            refine lv_iconst (v := 1) hx hb dX8_calls_45 (by decide) ?_
            refine m_calli (m_runV (i := nm 0 8) (ci := 4) (As := [.int 1]) (rest := []) X (k_F6_pop Γ l L x 0 8 g dd 1 pO8 (by omega) f4 (by decide) (by decide)) v_X6_pop ml_X8_115 hw hS (p_obj Γ L (c := sP x 0 8 (g, dd)) pO8) rfl rfl rfl hl.1 ⟨Nat.le_of_ble_eq_true rfl, Nat.le_of_ble_eq_true rfl⟩ (Nat.le_of_ble_eq_true rfl) ⟨Nat.le_of_ble_eq_true rfl, Nat.le_of_ble_eq_true rfl⟩ dX8_calls_46) hS (fun r_5 L1 M1 H locs hp_5 hw hS => ?_)
            obtain ⟨⟨h_5, d_5⟩, hd_5, e1, e2, hm_5, hz_5⟩ := hp_5
            have hd_5 : d_5 ≤ 8 := hd_5
            rw [e1, e2] at hw; clear e1 e2
            have hm_5 : mFo (p_pop (g, dd) 1) r_5 (h_5, d_5) := hm_5
            cases ho_5 : p_pop (g, dd) 1 with
            | none =>
              rw [ho_5] at hm_5
              have hm_5 : r_5 = 0 := hm_5
              subst hm_5
              have hw : mW Γ.1 vwCl A L (cM Γ L (sP x 0 8 (g, dd))) H := by rw [hz_5 ho_5] at hw; exact hw
              refine lv_if_ne (tgt := 54) hx hb dX8_calls_49 (by decide) (fun h => absurd rfl h) (fun _ => ?_)
              refine lv_iconst (v := 0) hx hb dX8_calls_52 (by decide) ?_
              exact m_zret (b := false) X hr hlk hw hS (Nat.le_of_ble_eq_true rfl) (Nat.le_of_ble_eq_true rfl) rfl ⟨(g, dd), by show dd ≤ 8; omega, rfl, rfl, (by have hL9 := isL_k (k := cm) ev_2 (by have := hI.1; omega) hlt_2; have hp9 : pm v.toInt32.toNatClampNeg = pm k_2 := (by rw [ev_2, i64_32, nI_clamp (by have := hI.1; omega)]); unfold p_33; rw [if_pos hL9, hp9]; first | (rw [b_s (show p_pops (pm k_2) (h, d) = some (g, dd) by rw [← show t = pm k_2 by omega]; exact f3), ho_5]; exact mFo.n) | (rw [b_n (pops_no (t := t) (by omega) (show (p_pops t (h, d)).bind _ = none by rw [b_s f3]; exact ho_5))]; exact mFo.n))⟩ dX8_calls_53
            | some z_5 =>
              rw [ho_5] at hm_5
              have hm_5 : r_5 = 1 ∧ (h_5, d_5) = z_5 := hm_5
              obtain ⟨e3, e4⟩ := hm_5
              subst e3; subst e4
              have ok_5 : okP (h_5, d_5) := ok_pop f4 _ ho_5
              refine lv_if_ne (tgt := 54) hx hb dX8_calls_49 (by decide) (fun _ => ?_) (fun h => absurd h (by decide))
              refine lv_iinc (v := j + 1) (lv' := [(6, .int (j + 1)), (5, .ref (L (nm (k_2 + 2) 0))), (0, .ref (L (nm 0 7)))]) hx hb dX8_calls_54 hl (k := 0) rfl rfl (by decide) rfl (fun ls hl => ?_)
              refine lv_goto (tgt := 31) hx hb dX8_calls_57 (by decide) ?_
              exact (by omega : False).elim
        | succ n ih =>
          intro t j g dd H locs ls f0 f1 f2 f3 f4 f5 hw hS hl
          have hpk := hpm k_2 hk_2
          refine lv_iload hx hb dX8_calls_31 (lv_at hl 0 rfl) ?_
          refine lv_aload hx hb dX8_calls_33 (lv_at hl 1 rfl) ?_
          refine s_get (a := k_2 + 2) (b := 0) (ci := 0) X hw (c_cell hk_2 0 _ _ _) rfl gX0 1 (by decide) fl_X8_151 rfl rfl dX8_calls_35 ?_
          refine lv_icmp_ge (tgt := 60) hx hb dX8_calls_38 (by decide) (fun c_8 => ?_) (fun c_8 => ?_)
          · skip
            have c_8n : t ≥ (pm k_2) := ngeT (a := t) (b := pm k_2) f1 ((sP_rdS (by omega)).trans hpk.1) (by omega) (by omega) c_8
            have c_8m : ¬ t < (pm k_2) := by omega
            refine lv_aload_n hx hb dX8_calls_60 rfl (lv_at hl 2 rfl) ?_
            refine s_get (a := 0) (b := 7) (ci := 6) X hw rfl rfl gX8 0 (by decide) fl_X8_10 rfl rfl dX8_calls_61 ?_
            refine lv_iconst (v := 1) hx hb dX8_calls_64 (by decide) ?_
            refine m_calli (m_runV (i := nm 0 8) (ci := 4) (As := [.int 1]) (rest := []) X (k_F6_push Γ l L x 0 8 g dd 1 pO8 (by omega)) v_X6_push ml_X8_74 hw hS (p_obj Γ L (c := sP x 0 8 (g, dd)) pO8) rfl rfl rfl hl.1 ⟨Nat.le_of_ble_eq_true rfl, Nat.le_of_ble_eq_true rfl⟩ (Nat.le_of_ble_eq_true rfl) ⟨Nat.le_of_ble_eq_true rfl, Nat.le_of_ble_eq_true rfl⟩ dX8_calls_65) hS (fun r_9 L1 M1 H locs hp_9 hw hS => ?_)
            obtain ⟨⟨h_9, d_9⟩, hd_9, e1, e2, hm_9⟩ := hp_9
            have hd_9 : d_9 ≤ 8 := hd_9
            rw [e1, e2] at hw; clear e1 e2
            have hm_9 : mFo (p_push (g, dd) 1) r_9 (h_9, d_9) := hm_9
            cases ho_9 : p_push (g, dd) 1 with
            | none =>
              rw [ho_9] at hm_9
              have hm_9 : r_9 = 0 := hm_9
              subst hm_9
              exact m_zret (b := false) X hr hlk hw hS (Nat.le_of_ble_eq_true rfl) (Nat.le_of_ble_eq_true rfl) rfl ⟨(h_9, d_9), by show d_9 ≤ 8; omega, rfl, rfl, (by have hL9 := isL_k (k := cm) ev_2 (by have := hI.1; omega) hlt_2; have hp9 : pm v.toInt32.toNatClampNeg = pm k_2 := (by rw [ev_2, i64_32, nI_clamp (by have := hI.1; omega)]); unfold p_33; rw [if_pos hL9, hp9]; first | (rw [b_s (show p_pops (pm k_2) (h, d) = some (g, dd) by rw [← show t = pm k_2 by omega]; exact f3), ho_9]; exact mFo.n) | (rw [b_n (pops_no (t := t) (by omega) (show (p_pops t (h, d)).bind _ = none by rw [b_s f3]; exact ho_9))]; exact mFo.n))⟩ dX8_calls_68
            | some z_9 =>
              rw [ho_9] at hm_9
              have hm_9 : r_9 = 1 ∧ (h_9, d_9) = z_9 := hm_9
              obtain ⟨e3, e4⟩ := hm_9
              subst e3; subst e4
              exact m_zret (b := true) X hr hlk hw hS (Nat.le_of_ble_eq_true rfl) (Nat.le_of_ble_eq_true rfl) rfl ⟨(h_9, d_9), by show d_9 ≤ 8; omega, rfl, rfl, (by have hL9 := isL_k (k := cm) ev_2 (by have := hI.1; omega) hlt_2; have hp9 : pm v.toInt32.toNatClampNeg = pm k_2 := (by rw [ev_2, i64_32, nI_clamp (by have := hI.1; omega)]); unfold p_33; rw [if_pos hL9, hp9]; first | (rw [b_s (show p_pops (pm k_2) (h, d) = some (g, dd) by rw [← show t = pm k_2 by omega]; exact f3), ho_9]; exact mFo.s) | (rw [b_n (pops_no (t := t) (by omega) (show (p_pops t (h, d)).bind _ = none by rw [b_s f3]; exact ho_9))]; exact mFo.n))⟩ dX8_calls_68
          · skip
            have c_8n : ¬ t ≥ (pm k_2) := ngeF (a := t) (b := pm k_2) f1 ((sP_rdS (by omega)).trans hpk.1) (by omega) (by omega) c_8
            have c_8m : t < (pm k_2) := by omega
            refine lv_aload_n hx hb dX8_calls_41 rfl (lv_at hl 2 rfl) ?_
            refine s_get (a := 0) (b := 7) (ci := 6) X hw rfl rfl gX8 0 (by decide) fl_X8_10 rfl rfl dX8_calls_42 ?_
            refine lv_iconst (v := 1) hx hb dX8_calls_45 (by decide) ?_
            refine m_calli (m_runV (i := nm 0 8) (ci := 4) (As := [.int 1]) (rest := []) X (k_F6_pop Γ l L x 0 8 g dd 1 pO8 (by omega) f4 (by decide) (by decide)) v_X6_pop ml_X8_115 hw hS (p_obj Γ L (c := sP x 0 8 (g, dd)) pO8) rfl rfl rfl hl.1 ⟨Nat.le_of_ble_eq_true rfl, Nat.le_of_ble_eq_true rfl⟩ (Nat.le_of_ble_eq_true rfl) ⟨Nat.le_of_ble_eq_true rfl, Nat.le_of_ble_eq_true rfl⟩ dX8_calls_46) hS (fun r_10 L1 M1 H locs hp_10 hw hS => ?_)
            obtain ⟨⟨h_10, d_10⟩, hd_10, e1, e2, hm_10, hz_10⟩ := hp_10
            have hd_10 : d_10 ≤ 8 := hd_10
            rw [e1, e2] at hw; clear e1 e2
            have hm_10 : mFo (p_pop (g, dd) 1) r_10 (h_10, d_10) := hm_10
            cases ho_10 : p_pop (g, dd) 1 with
            | none =>
              rw [ho_10] at hm_10
              have hm_10 : r_10 = 0 := hm_10
              subst hm_10
              have hw : mW Γ.1 vwCl A L (cM Γ L (sP x 0 8 (g, dd))) H := by rw [hz_10 ho_10] at hw; exact hw
              refine lv_if_ne (tgt := 54) hx hb dX8_calls_49 (by decide) (fun h => absurd rfl h) (fun _ => ?_)
              refine lv_iconst (v := 0) hx hb dX8_calls_52 (by decide) ?_
              exact m_zret (b := false) X hr hlk hw hS (Nat.le_of_ble_eq_true rfl) (Nat.le_of_ble_eq_true rfl) rfl ⟨(g, dd), by show dd ≤ 8; omega, rfl, rfl, (by have hL9 := isL_k (k := cm) ev_2 (by have := hI.1; omega) hlt_2; have hp9 : pm v.toInt32.toNatClampNeg = pm k_2 := (by rw [ev_2, i64_32, nI_clamp (by have := hI.1; omega)]); unfold p_33; rw [if_pos hL9, hp9]; first | (rw [b_s (show p_pops (pm k_2) (h, d) = some (g, dd) by rw [← show t = pm k_2 by omega]; exact f3), ho_10]; exact mFo.n) | (rw [b_n (pops_no (t := t) (by omega) (show (p_pops t (h, d)).bind _ = none by rw [b_s f3]; exact ho_10))]; exact mFo.n))⟩ dX8_calls_53
            | some z_10 =>
              rw [ho_10] at hm_10
              have hm_10 : r_10 = 1 ∧ (h_10, d_10) = z_10 := hm_10
              obtain ⟨e3, e4⟩ := hm_10
              subst e3; subst e4
              have ok_10 : okP (h_10, d_10) := ok_pop f4 _ ho_10
              refine lv_if_ne (tgt := 54) hx hb dX8_calls_49 (by decide) (fun _ => ?_) (fun h => absurd h (by decide))
              refine lv_iinc (v := j + 1) (lv' := [(6, .int (j + 1)), (5, .ref (L (nm (k_2 + 2) 0))), (0, .ref (L (nm 0 7)))]) hx hb dX8_calls_54 hl (k := 0) rfl rfl (by decide) rfl (fun ls hl => ?_)
              refine lv_goto (tgt := 31) hx hb dX8_calls_57 (by decide) ?_
              exact ih (t + 1) _ _ _ _ _ ls (by omega) (nadd (a := t) (b := 1) f1 rfl) (by omega) (show (p_pops t (h, d)).bind _ = _ by rw [b_s f3]; exact ho_10) ok_10 (by omega) hw hS (lv_sub hl [0, 1, 2] rfl)
      refine lv_goto (tgt := 19) hx hb dX8_calls_15 (by decide) ?_
      refine lv_astore (lv' := [(5, .ref (L (nm (k_2 + 2) 0))), (0, .ref (L (nm 0 7))), (1, .ref (L (nm 0 1))), (2, .ref (L (nm (cm + 2) 0))), (3, .long v)]) hx hb dX8_calls_19 hl (by decide) rfl (fun ls hl => ?_)
      refine lv_aload hx hb dX8_calls_21 (lv_at hl 0 rfl) ?_
      refine lv_ifnonnull (tgt := 28) hx hb dX8_calls_23 (by decide) ?_
      refine lv_iconst (v := 0) hx hb dX8_calls_28 (by decide) ?_
      refine lv_istore (lv' := [(6, .int 0), (5, .ref (L (nm (k_2 + 2) 0))), (0, .ref (L (nm 0 7))), (1, .ref (L (nm 0 1))), (2, .ref (L (nm (cm + 2) 0))), (3, .long v)]) hx hb dX8_calls_29 hl (by decide) rfl (fun ls hl => ?_)
      exact KL 4 0 _ _ _ _ _ ls rfl rfl (by omega) rfl ok (Nat.zero_le _) hw hS (lv_sub hl [0, 1, 2] rfl)
set_option maxHeartbeats 4000000 in
set_option maxRecDepth 100000 in
theorem k_F8_goesElsewhere (Γ : mG) (l : Launch) (L : mI → Nat) (x : CS) (h : Nat → Int32) (d : Nat) (cm om : Nat) (o : Int32) (v : Int64) (hd : d ≤ 8) (ok : okP (h, d)) (hI : CInv x) (hm : cm < cN x) (hom : x.1 (cm + 2) 0 4 = nI om) (ho40 : om ≤ 40) : mMet Γ l yX8_goesElsewhere cX8_goesElsewhere 5 (some .boolean) { frames := 3, cells := 0, slots := 0, locals := 63 } [.ref (L (nm 0 7)), .ref (L (nm (cm + 2) 0)), .int o, .long v] L (cM Γ L (sP x 0 8 (h, d))) (mQi Γ (fun r L1 M1 => L1 = L ∧ ∃ (u : Int32) (q : PL), q.2 ≤ 8 ∧ M1 = cM Γ L (sP (tS x 0 7 1 u) 0 8 q) ∧ mFo (f_els om o v (h, d)) r q ∧ (r = 1 → u = if o = 32 ∨ o = 34 then x.1 0 7 1 else v.toInt32))) := by
  refine m_start (by decide) (Nat.le_of_ble_eq_true rfl) ?_
  intro p e s m args below meth c A ls X hr hlk hnm hw hS hl
  have hx := X.1.1
  have hb := X.1.2.1
  have hl : lv_has ls 5 [(0, .ref (L (nm 0 7))), (1, .ref (L (nm (cm + 2) 0))), (2, .int o), (3, .long v)] := hl
  refine lv_iload_n hx hb dX8_goesElsewhere_0 rfl (lv_at hl 2 rfl) ?_
  refine lv_bipush (v := 32) hx hb dX8_goesElsewhere_1 (by decide) ?_
  refine lv_icmp_eq (tgt := 12) hx hb dX8_goesElsewhere_3 (by decide) (fun c_1 => ?_) (fun c_1 => ?_)
  · skip
    refine lv_aload_n hx hb dX8_goesElsewhere_12 rfl (lv_at hl 0 rfl) ?_
    refine s_get (a := 0) (b := 7) (ci := 6) X hw rfl rfl gX8 0 (by decide) fl_X8_10 rfl rfl dX8_goesElsewhere_13 ?_
    refine lv_iconst (v := 1) hx hb dX8_goesElsewhere_16 (by decide) ?_
    refine m_calli (m_runV (i := nm 0 8) (ci := 4) (As := [.int 1]) (rest := []) X (k_F6_pop Γ l L x 0 8 h d 1 pO8 (by omega) ok (by decide) (by decide)) v_X6_pop ml_X8_115 hw hS (p_obj Γ L (c := sP x 0 8 (h, d)) pO8) rfl rfl rfl hl.1 ⟨Nat.le_of_ble_eq_true rfl, Nat.le_of_ble_eq_true rfl⟩ (Nat.le_of_ble_eq_true rfl) ⟨Nat.le_of_ble_eq_true rfl, Nat.le_of_ble_eq_true rfl⟩ dX8_goesElsewhere_17) hS (fun r_2 L1 M1 H locs hp_2 hw hS => ?_)
    obtain ⟨⟨h_2, d_2⟩, hd_2, e1, e2, hm_2, hz_2⟩ := hp_2
    have hd_2 : d_2 ≤ 8 := hd_2
    rw [e1, e2] at hw; clear e1 e2
    have hm_2 : mFo (p_pop (h, d) 1) r_2 (h_2, d_2) := hm_2
    cases ho_2 : p_pop (h, d) 1 with
    | none =>
      rw [ho_2] at hm_2
      have hm_2 : r_2 = 0 := hm_2
      subst hm_2
      have hw : mW Γ.1 vwCl A L (cM Γ L (sP x 0 8 (h, d))) H := by rw [hz_2 ho_2] at hw; exact hw
      exact m_zret (b := false) X hr hlk hw hS (Nat.le_of_ble_eq_true rfl) (Nat.le_of_ble_eq_true rfl) rfl ⟨rfl, x.1 0 7 1, (h, d), by show d ≤ 8; omega, by rw [tS_id], by unfold f_els; rw [if_pos (by first | exact Or.inl (by assumption) | exact Or.inr (by assumption)), ho_2]; exact mFo.n, fun _ => by rw [if_pos (by first | exact Or.inl (by assumption) | exact Or.inr (by assumption))]⟩ dX8_goesElsewhere_20
    | some z_2 =>
      rw [ho_2] at hm_2
      have hm_2 : r_2 = 1 ∧ (h_2, d_2) = z_2 := hm_2
      obtain ⟨e3, e4⟩ := hm_2
      subst e3; subst e4
      have ok_2 : okP (h_2, d_2) := ok_pop ok _ ho_2
      exact m_zret (b := true) X hr hlk hw hS (Nat.le_of_ble_eq_true rfl) (Nat.le_of_ble_eq_true rfl) rfl ⟨rfl, x.1 0 7 1, (h_2, d_2), by show d_2 ≤ 8; omega, by rw [tS_id], by unfold f_els; rw [if_pos (by first | exact Or.inl (by assumption) | exact Or.inr (by assumption)), ho_2]; exact mFo.s, fun _ => by rw [if_pos (by first | exact Or.inl (by assumption) | exact Or.inr (by assumption))]⟩ dX8_goesElsewhere_20
  · skip
    refine lv_iload_n hx hb dX8_goesElsewhere_6 rfl (lv_at hl 2 rfl) ?_
    refine lv_bipush (v := 34) hx hb dX8_goesElsewhere_7 (by decide) ?_
    refine lv_icmp_ne (tgt := 21) hx hb dX8_goesElsewhere_9 (by decide) (fun c_3 => ?_) (fun c_3 => ?_)
    · skip
      refine lv_aload_n hx hb dX8_goesElsewhere_21 rfl (lv_at hl 1 rfl) ?_
      refine lv_lload_n hx hb dX8_goesElsewhere_22 rfl (lv_at hl 3 rfl) ?_
      refine m_calli (m_runV (i := nm (cm + 2) 0) (ci := 0) (As := [.long v]) (rest := []) X (k_X0_hasInstruction Γ l L (sP x 0 8 (h, d)) cm v hm) v_X0_hasInstruction ml_X8_16 hw hS (c_cell hm 0 _ _ _) rfl rfl rfl hl.1 ⟨Nat.le_of_ble_eq_true rfl, Nat.le_of_ble_eq_true rfl⟩ (Nat.le_of_ble_eq_true rfl) ⟨Nat.le_of_ble_eq_true rfl, Nat.le_of_ble_eq_true rfl⟩ dX8_goesElsewhere_23) hS (fun r_4 L1 M1 H locs hp_4 hw hS => ?_)
      obtain ⟨rfl, e1, e2⟩ := hp_4
      rw [e1, e2] at hw; clear e1 e2
      refine lv_if_ne (tgt := 31) hx hb dX8_goesElsewhere_26 (by decide) (fun c_5 => ?_) (fun c_5 => ?_)
      · skip
        have c_5 := bI_t c_5
        refine lv_aload_n hx hb dX8_goesElsewhere_31 rfl (lv_at hl 0 rfl) ?_
        refine lv_lload_n hx hb dX8_goesElsewhere_32 rfl (lv_at hl 3 rfl) ?_
        refine lv_l2i (v := v.toInt32) hx hb dX8_goesElsewhere_33 rfl ?_
        refine s_put (a := 0) (b := 7) (v := v.toInt32) (ci := 6) (ty := tyX8 1) X hw hS 1 rfl rfl rfl gX8 tyX8 tyX8_ok nmX8 (by decide) fl_X8_30 rfl rfl (tyX8_ok 1 (by decide)) rfl rfl (show 1 < 3 by decide) dX8_goesElsewhere_34 (fun H locs hw hS => ?_)
        rw [sP_tSo (by first | decide | omega)] at hw
        have hI := hI.free (b := 7) (k := 1) (v := v.toInt32) (by decide)
        refine lv_iload_n hx hb dX8_goesElsewhere_37 rfl (lv_at hl 2 rfl) ?_
        refine lv_bipush (v := 30) hx hb dX8_goesElsewhere_38 (by decide) ?_
        refine lv_icmp_ne (tgt := 52) hx hb dX8_goesElsewhere_40 (by decide) (fun c_6 => ?_) (fun c_6 => ?_)
        · skip
          refine lv_iload_n hx hb dX8_goesElsewhere_52 rfl (lv_at hl 2 rfl) ?_
          refine lv_bipush (v := 29) hx hb dX8_goesElsewhere_53 (by decide) ?_
          refine lv_icmp_eq (tgt := 70) hx hb dX8_goesElsewhere_55 (by decide) (fun c_7 => ?_) (fun c_7 => ?_)
          · skip
            refine lv_iconst (v := 1) hx hb dX8_goesElsewhere_70 (by decide) ?_
            refine lv_goto (tgt := 75) hx hb dX8_goesElsewhere_71 (by decide) ?_
            exact m_zret (b := true) X hr hlk hw hS (Nat.le_of_ble_eq_true rfl) (Nat.le_of_ble_eq_true rfl) rfl ⟨rfl, v.toInt32, (h, d), by show d ≤ 8; omega, rfl, by unfold f_els; rw [if_neg (fun z9 => z9.elim (show ¬ o = 32 by assumption) (show ¬ o = 34 by assumption)), if_neg (show ¬ o = 30 by assumption), if_pos (show o = 29 by assumption)]; unfold p_29; rw [if_pos (show p_isL om v = true by rw [← hasI_isL hom ho40, ← hasI_x (q := (h, d))]; assumption)]; exact mFo.s, fun _ => by rw [if_neg (fun z9 => z9.elim (show ¬ o = 32 by assumption) (show ¬ o = 34 by assumption))]⟩ dX8_goesElsewhere_75
          · skip
            refine lv_aload_n hx hb dX8_goesElsewhere_58 rfl (lv_at hl 0 rfl) ?_
            refine s_get (a := 0) (b := 7) (ci := 6) X hw rfl rfl gX8 0 (by decide) fl_X8_10 rfl rfl dX8_goesElsewhere_59 ?_
            refine lv_bipush (v := 10) hx hb dX8_goesElsewhere_62 (by decide) ?_
            refine m_calli (m_runV (i := nm 0 8) (ci := 4) (As := [.int 10]) (rest := []) X (k_F6_pop Γ l L (tS x 0 7 1 v.toInt32) 0 8 h d 10 pO8 (by omega) ok (by decide) (by decide)) v_X6_pop ml_X8_115 hw hS (p_obj Γ L (c := sP (tS x 0 7 1 v.toInt32) 0 8 (h, d)) pO8) rfl rfl rfl hl.1 ⟨Nat.le_of_ble_eq_true rfl, Nat.le_of_ble_eq_true rfl⟩ (Nat.le_of_ble_eq_true rfl) ⟨Nat.le_of_ble_eq_true rfl, Nat.le_of_ble_eq_true rfl⟩ dX8_goesElsewhere_64) hS (fun r_8 L1 M1 H locs hp_8 hw hS => ?_)
            obtain ⟨⟨h_8, d_8⟩, hd_8, e1, e2, hm_8, hz_8⟩ := hp_8
            have hd_8 : d_8 ≤ 8 := hd_8
            rw [e1, e2] at hw; clear e1 e2
            have hm_8 : mFo (p_pop (h, d) 10) r_8 (h_8, d_8) := hm_8
            cases ho_8 : p_pop (h, d) 10 with
            | none =>
              rw [ho_8] at hm_8
              have hm_8 : r_8 = 0 := hm_8
              subst hm_8
              have hw : mW Γ.1 vwCl A L (cM Γ L (sP (tS x 0 7 1 v.toInt32) 0 8 (h, d))) H := by rw [hz_8 ho_8] at hw; exact hw
              refine lv_if_eq (tgt := 74) hx hb dX8_goesElsewhere_67 (by decide) (fun _ => ?_) (fun h => absurd rfl h)
              refine lv_iconst (v := 0) hx hb dX8_goesElsewhere_74 (by decide) ?_
              exact m_zret (b := false) X hr hlk hw hS (Nat.le_of_ble_eq_true rfl) (Nat.le_of_ble_eq_true rfl) rfl ⟨rfl, v.toInt32, (h, d), by show d ≤ 8; omega, rfl, by unfold f_els; rw [if_neg (fun z9 => z9.elim (show ¬ o = 32 by assumption) (show ¬ o = 34 by assumption))]; first | (rw [if_pos (show o = 30 by assumption)]; unfold p_30; rw [if_pos (show p_isL om v = true by rw [← hasI_isL hom ho40, ← hasI_x (q := (h, d))]; assumption), ho_8]; exact mFo.n) | (rw [if_neg (show ¬ o = 30 by assumption), if_neg (show ¬ o = 29 by assumption)]; unfold p_30; rw [if_pos (show p_isL om v = true by rw [← hasI_isL hom ho40, ← hasI_x (q := (h, d))]; assumption), ho_8]; exact mFo.n), fun _ => by rw [if_neg (fun z9 => z9.elim (show ¬ o = 32 by assumption) (show ¬ o = 34 by assumption))]⟩ dX8_goesElsewhere_75
            | some z_8 =>
              rw [ho_8] at hm_8
              have hm_8 : r_8 = 1 ∧ (h_8, d_8) = z_8 := hm_8
              obtain ⟨e3, e4⟩ := hm_8
              subst e3; subst e4
              have ok_8 : okP (h_8, d_8) := ok_pop ok _ ho_8
              refine lv_if_eq (tgt := 74) hx hb dX8_goesElsewhere_67 (by decide) (fun h => absurd h (by decide)) (fun _ => ?_)
              refine lv_iconst (v := 1) hx hb dX8_goesElsewhere_70 (by decide) ?_
              refine lv_goto (tgt := 75) hx hb dX8_goesElsewhere_71 (by decide) ?_
              exact m_zret (b := true) X hr hlk hw hS (Nat.le_of_ble_eq_true rfl) (Nat.le_of_ble_eq_true rfl) rfl ⟨rfl, v.toInt32, (h_8, d_8), by show d_8 ≤ 8; omega, rfl, by unfold f_els; rw [if_neg (fun z9 => z9.elim (show ¬ o = 32 by assumption) (show ¬ o = 34 by assumption))]; first | (rw [if_pos (show o = 30 by assumption)]; unfold p_30; rw [if_pos (show p_isL om v = true by rw [← hasI_isL hom ho40, ← hasI_x (q := (h, d))]; assumption), ho_8]; exact mFo.s) | (rw [if_neg (show ¬ o = 30 by assumption), if_neg (show ¬ o = 29 by assumption)]; unfold p_30; rw [if_pos (show p_isL om v = true by rw [← hasI_isL hom ho40, ← hasI_x (q := (h, d))]; assumption), ho_8]; exact mFo.s), fun _ => by rw [if_neg (fun z9 => z9.elim (show ¬ o = 32 by assumption) (show ¬ o = 34 by assumption))]⟩ dX8_goesElsewhere_75
        · skip
          refine lv_aload_n hx hb dX8_goesElsewhere_43 rfl (lv_at hl 0 rfl) ?_
          refine s_get (a := 0) (b := 7) (ci := 6) X hw rfl rfl gX8 0 (by decide) fl_X8_10 rfl rfl dX8_goesElsewhere_44 ?_
          refine lv_iconst (v := 1) hx hb dX8_goesElsewhere_47 (by decide) ?_
          refine m_calli (m_runV (i := nm 0 8) (ci := 4) (As := [.int 1]) (rest := []) X (k_F6_pop Γ l L (tS x 0 7 1 v.toInt32) 0 8 h d 1 pO8 (by omega) ok (by decide) (by decide)) v_X6_pop ml_X8_115 hw hS (p_obj Γ L (c := sP (tS x 0 7 1 v.toInt32) 0 8 (h, d)) pO8) rfl rfl rfl hl.1 ⟨Nat.le_of_ble_eq_true rfl, Nat.le_of_ble_eq_true rfl⟩ (Nat.le_of_ble_eq_true rfl) ⟨Nat.le_of_ble_eq_true rfl, Nat.le_of_ble_eq_true rfl⟩ dX8_goesElsewhere_48) hS (fun r_11 L1 M1 H locs hp_11 hw hS => ?_)
          obtain ⟨⟨h_11, d_11⟩, hd_11, e1, e2, hm_11, hz_11⟩ := hp_11
          have hd_11 : d_11 ≤ 8 := hd_11
          rw [e1, e2] at hw; clear e1 e2
          have hm_11 : mFo (p_pop (h, d) 1) r_11 (h_11, d_11) := hm_11
          cases ho_11 : p_pop (h, d) 1 with
          | none =>
            rw [ho_11] at hm_11
            have hm_11 : r_11 = 0 := hm_11
            subst hm_11
            have hw : mW Γ.1 vwCl A L (cM Γ L (sP (tS x 0 7 1 v.toInt32) 0 8 (h, d))) H := by rw [hz_11 ho_11] at hw; exact hw
            exact m_zret (b := false) X hr hlk hw hS (Nat.le_of_ble_eq_true rfl) (Nat.le_of_ble_eq_true rfl) rfl ⟨rfl, v.toInt32, (h, d), by show d ≤ 8; omega, rfl, by unfold f_els; rw [if_neg (fun z9 => z9.elim (show ¬ o = 32 by assumption) (show ¬ o = 34 by assumption))]; first | (rw [if_pos (show o = 30 by assumption)]; unfold p_30; rw [if_pos (show p_isL om v = true by rw [← hasI_isL hom ho40, ← hasI_x (q := (h, d))]; assumption), ho_11]; exact mFo.n) | (rw [if_neg (show ¬ o = 30 by assumption), if_neg (show ¬ o = 29 by assumption)]; unfold p_30; rw [if_pos (show p_isL om v = true by rw [← hasI_isL hom ho40, ← hasI_x (q := (h, d))]; assumption), ho_11]; exact mFo.n), fun _ => by rw [if_neg (fun z9 => z9.elim (show ¬ o = 32 by assumption) (show ¬ o = 34 by assumption))]⟩ dX8_goesElsewhere_51
          | some z_11 =>
            rw [ho_11] at hm_11
            have hm_11 : r_11 = 1 ∧ (h_11, d_11) = z_11 := hm_11
            obtain ⟨e3, e4⟩ := hm_11
            subst e3; subst e4
            have ok_11 : okP (h_11, d_11) := ok_pop ok _ ho_11
            exact m_zret (b := true) X hr hlk hw hS (Nat.le_of_ble_eq_true rfl) (Nat.le_of_ble_eq_true rfl) rfl ⟨rfl, v.toInt32, (h_11, d_11), by show d_11 ≤ 8; omega, rfl, by unfold f_els; rw [if_neg (fun z9 => z9.elim (show ¬ o = 32 by assumption) (show ¬ o = 34 by assumption))]; first | (rw [if_pos (show o = 30 by assumption)]; unfold p_30; rw [if_pos (show p_isL om v = true by rw [← hasI_isL hom ho40, ← hasI_x (q := (h, d))]; assumption), ho_11]; exact mFo.s) | (rw [if_neg (show ¬ o = 30 by assumption), if_neg (show ¬ o = 29 by assumption)]; unfold p_30; rw [if_pos (show p_isL om v = true by rw [← hasI_isL hom ho40, ← hasI_x (q := (h, d))]; assumption), ho_11]; exact mFo.s), fun _ => by rw [if_neg (fun z9 => z9.elim (show ¬ o = 32 by assumption) (show ¬ o = 34 by assumption))]⟩ dX8_goesElsewhere_51
      · skip
        have c_5 := bI_f c_5
        refine lv_iconst (v := 0) hx hb dX8_goesElsewhere_29 (by decide) ?_
        exact m_zret (b := false) X hr hlk hw hS (Nat.le_of_ble_eq_true rfl) (Nat.le_of_ble_eq_true rfl) rfl ⟨rfl, x.1 0 7 1, (h, d), by show d ≤ 8; omega, by rw [tS_id], by rw [els_n (fun z9 => z9.elim (show ¬ o = 32 by assumption) (show ¬ o = 34 by assumption)) (by rw [← hasI_isL hom ho40, ← hasI_x (q := (h, d))]; assumption)]; exact mFo.n, fun z9 => absurd z9 (by decide)⟩ dX8_goesElsewhere_30
    · skip
      refine lv_aload_n hx hb dX8_goesElsewhere_12 rfl (lv_at hl 0 rfl) ?_
      refine s_get (a := 0) (b := 7) (ci := 6) X hw rfl rfl gX8 0 (by decide) fl_X8_10 rfl rfl dX8_goesElsewhere_13 ?_
      refine lv_iconst (v := 1) hx hb dX8_goesElsewhere_16 (by decide) ?_
      refine m_calli (m_runV (i := nm 0 8) (ci := 4) (As := [.int 1]) (rest := []) X (k_F6_pop Γ l L x 0 8 h d 1 pO8 (by omega) ok (by decide) (by decide)) v_X6_pop ml_X8_115 hw hS (p_obj Γ L (c := sP x 0 8 (h, d)) pO8) rfl rfl rfl hl.1 ⟨Nat.le_of_ble_eq_true rfl, Nat.le_of_ble_eq_true rfl⟩ (Nat.le_of_ble_eq_true rfl) ⟨Nat.le_of_ble_eq_true rfl, Nat.le_of_ble_eq_true rfl⟩ dX8_goesElsewhere_17) hS (fun r_12 L1 M1 H locs hp_12 hw hS => ?_)
      obtain ⟨⟨h_12, d_12⟩, hd_12, e1, e2, hm_12, hz_12⟩ := hp_12
      have hd_12 : d_12 ≤ 8 := hd_12
      rw [e1, e2] at hw; clear e1 e2
      have hm_12 : mFo (p_pop (h, d) 1) r_12 (h_12, d_12) := hm_12
      cases ho_12 : p_pop (h, d) 1 with
      | none =>
        rw [ho_12] at hm_12
        have hm_12 : r_12 = 0 := hm_12
        subst hm_12
        have hw : mW Γ.1 vwCl A L (cM Γ L (sP x 0 8 (h, d))) H := by rw [hz_12 ho_12] at hw; exact hw
        exact m_zret (b := false) X hr hlk hw hS (Nat.le_of_ble_eq_true rfl) (Nat.le_of_ble_eq_true rfl) rfl ⟨rfl, x.1 0 7 1, (h, d), by show d ≤ 8; omega, by rw [tS_id], by unfold f_els; rw [if_pos (by first | exact Or.inl (by assumption) | exact Or.inr (by assumption)), ho_12]; exact mFo.n, fun _ => by rw [if_pos (by first | exact Or.inl (by assumption) | exact Or.inr (by assumption))]⟩ dX8_goesElsewhere_20
      | some z_12 =>
        rw [ho_12] at hm_12
        have hm_12 : r_12 = 1 ∧ (h_12, d_12) = z_12 := hm_12
        obtain ⟨e3, e4⟩ := hm_12
        subst e3; subst e4
        have ok_12 : okP (h_12, d_12) := ok_pop ok _ ho_12
        exact m_zret (b := true) X hr hlk hw hS (Nat.le_of_ble_eq_true rfl) (Nat.le_of_ble_eq_true rfl) rfl ⟨rfl, x.1 0 7 1, (h_12, d_12), by show d_12 ≤ 8; omega, by rw [tS_id], by unfold f_els; rw [if_pos (by first | exact Or.inl (by assumption) | exact Or.inr (by assumption)), ho_12]; exact mFo.s, fun _ => by rw [if_pos (by first | exact Or.inl (by assumption) | exact Or.inr (by assumption))]⟩ dX8_goesElsewhere_20
set_option maxHeartbeats 4000000 in
set_option maxRecDepth 100000 in
theorem k_F8_does (Γ : mG) (l : Launch) (L : mI → Nat) (x : CS) (h : Nat → Int32) (d : Nat) (cm om kn : Nat) (pm : Nat → Nat) (k : Int32) (hd : d ≤ 8) (ok : okP (h, d)) (hI : CInv x) (hm : cm < cN x) (hom : x.1 (cm + 2) 0 4 = nI om) (ho40 : om ≤ 40) (hpm : ∀ t, t < cN x → x.1 (t + 2) 0 1 = nI (pm t) ∧ pm t ≤ 4) (hkn : kn < om) (ek : k = nI kn) : mMet Γ l yX8_does cX8_does 7 (some .boolean) { frames := 4, cells := 0, slots := 0, locals := 90 } [.ref (L (nm 0 7)), .ref (L (nm 0 1)), .ref (L (nm (cm + 2) 0)), .int k] L (cM Γ L (sP x 0 8 (h, d))) (mQi Γ (fun r L1 M1 => L1 = L ∧ ∃ (u w : Int32) (q : PL), q.2 ≤ 8 ∧ M1 = cM Γ L (sP (tS (tS x 0 7 1 u) 0 7 2 w) 0 8 q) ∧ mFo (p_op (x.2.1 (cm + 2) 1) (x.2.2.1 (cm + 2) 2) cm om pm k (x.2.1 (cm + 2) 1 kn) (x.2.2.1 (cm + 2) 2 kn) (h, d)) r q ∧ (r = 1 → w = bI (!r_last (x.2.1 (cm + 2) 1 kn)) ∧ u = if r_leads (x.2.1 (cm + 2) 1 kn) = true then (x.2.2.1 (cm + 2) 2 kn).toInt32 else -1))) := by
  refine m_start (by decide) (Nat.le_of_ble_eq_true rfl) ?_
  intro p e s m args below meth c A ls X hr hlk hnm hw hS hl
  have hx := X.1.1
  have hb := X.1.2.1
  have hl : lv_has ls 7 [(0, .ref (L (nm 0 7))), (1, .ref (L (nm 0 1))), (2, .ref (L (nm (cm + 2) 0))), (3, .int k)] := hl
  have hom0 := hom
  have K62_0 : ∀ (o : Int32) (v : Int64) (H : Heap) (locs : List Loc) (ls : Array Slot), o = x.2.1 (cm + 2) 1 kn → v = x.2.2.1 (cm + 2) 2 kn → r_last o = true → mW Γ.1 vwCl A L (cM Γ L (sP (tS (tS x 0 7 1 (-1)) 0 7 2 0) 0 8 (h, d))) H → va_S A s.heap H locs → lv_has ls 7 [(4, .int o), (5, .long v), (0, .ref (L (nm 0 7))), (1, .ref (L (nm 0 1))), (2, .ref (L (nm (cm + 2) 0))), (3, .int k)] → W p l e { frames := 4, cells := 0, slots := 0, locals := 90 } s m args below meth c H locs 0 0 (MQ below (mQi Γ (fun r L1 M1 => L1 = L ∧ ∃ (u w : Int32) (q : PL), q.2 ≤ 8 ∧ M1 = cM Γ L (sP (tS (tS x 0 7 1 u) 0 7 2 w) 0 8 q) ∧ mFo (p_op (x.2.1 (cm + 2) 1) (x.2.2.1 (cm + 2) 2) cm om pm k (x.2.1 (cm + 2) 1 kn) (x.2.2.1 (cm + 2) 2 kn) (h, d)) r q ∧ (r = 1 → w = bI (!r_last (x.2.1 (cm + 2) 1 kn)) ∧ u = if r_leads (x.2.1 (cm + 2) 1 kn) = true then (x.2.2.1 (cm + 2) 2 kn).toInt32 else -1)) A) args s 0 0 A) (F0 m 62 ls []) := by
    intro o v H locs ls ho_o ho_v hla hw hS hl
    have hI := (hI.free (b := 7) (k := 1) (v := -1) (by decide)).free (b := 7) (k := 2) (v := 0) (by decide)
    have hom : (tS (tS x 0 7 1 (-1)) 0 7 2 0).1 (cm + 2) 0 4 = nI om := (tS_rd (by omega)).trans ((tS_rd (by omega)).trans hom0)
    have hpm : ∀ t, t < cN (tS (tS x 0 7 1 (-1)) 0 7 2 0) → (tS (tS x 0 7 1 (-1)) 0 7 2 0).1 (t + 2) 0 1 = nI (pm t) ∧ pm t ≤ 4 := fun t ht => ⟨(tS_rd (by omega)).trans ((tS_rd (by omega)).trans (hpm t ht).1), (hpm t ht).2⟩
    refine lv_iload hx hb dX8_does_62 (lv_at hl 0 rfl) ?_
    refine lv_if_lt (tgt := 74) hx hb dX8_does_64 (by decide) (fun c_1 => ?_) (fun c_1 => ?_)
    · skip
      refine lv_iconst (v := 0) hx hb dX8_does_74 (by decide) ?_
      exact m_zret (b := false) X hr hlk hw hS (Nat.le_of_ble_eq_true rfl) (Nat.le_of_ble_eq_true rfl) rfl ⟨rfl, -1, 0, (h, d), by show d ≤ 8; omega, rfl, by rw [← ho_o, ← ho_v, op_bad (by first | exact Or.inl (by assumption) | exact Or.inr (by assumption))]; exact mFo.n, fun z9 => absurd z9 (by decide)⟩ dX8_does_75
    · skip
      refine lv_iload hx hb dX8_does_67 (lv_at hl 0 rfl) ?_
      refine lv_bipush (v := 34) hx hb dX8_does_69 (by decide) ?_
      refine lv_icmp_le (tgt := 76) hx hb dX8_does_71 (by decide) (fun c_2 => ?_) (fun c_2 => ?_)
      · skip
        refine lv_iload hx hb dX8_does_76 (lv_at hl 0 rfl) ?_
        refine lv_bipush (v := 6) hx hb dX8_does_78 (by decide) ?_
        refine lv_icmp_gt (tgt := 92) hx hb dX8_does_80 (by decide) (fun c_3 => ?_) (fun c_3 => ?_)
        · skip
          refine lv_iload hx hb dX8_does_92 (lv_at hl 0 rfl) ?_
          refine lv_bipush (v := 11) hx hb dX8_does_94 (by decide) ?_
          refine lv_icmp_gt (tgt := 108) hx hb dX8_does_96 (by decide) (fun c_4 => ?_) (fun c_4 => ?_)
          · skip
            refine lv_iload hx hb dX8_does_108 (lv_at hl 0 rfl) ?_
            refine lv_bipush (v := 13) hx hb dX8_does_110 (by decide) ?_
            refine lv_icmp_gt (tgt := 140) hx hb dX8_does_112 (by decide) (fun c_5 => ?_) (fun c_5 => ?_)
            · skip
              refine lv_iload hx hb dX8_does_140 (lv_at hl 0 rfl) ?_
              refine lv_bipush (v := 20) hx hb dX8_does_142 (by decide) ?_
              refine lv_icmp_gt (tgt := 156) hx hb dX8_does_144 (by decide) (fun c_6 => ?_) (fun c_6 => ?_)
              · skip
                refine lv_iload hx hb dX8_does_156 (lv_at hl 0 rfl) ?_
                refine lv_bipush (v := 25) hx hb dX8_does_158 (by decide) ?_
                refine lv_icmp_gt (tgt := 172) hx hb dX8_does_160 (by decide) (fun c_7 => ?_) (fun c_7 => ?_)
                · skip
                  refine lv_iload hx hb dX8_does_172 (lv_at hl 0 rfl) ?_
                  refine lv_bipush (v := 28) hx hb dX8_does_174 (by decide) ?_
                  refine lv_icmp_gt (tgt := 186) hx hb dX8_does_176 (by decide) (fun c_8 => ?_) (fun c_8 => ?_)
                  · skip
                    refine lv_iload hx hb dX8_does_186 (lv_at hl 0 rfl) ?_
                    refine lv_bipush (v := 33) hx hb dX8_does_188 (by decide) ?_
                    refine lv_icmp_ne (tgt := 204) hx hb dX8_does_190 (by decide) (fun c_9 => ?_) (fun c_9 => ?_)
                    · skip
                      refine lv_aload_n hx hb dX8_does_204 rfl (lv_at hl 2 rfl) ?_
                      refine lv_aload_n hx hb dX8_does_205 rfl (lv_at hl 4 rfl) ?_
                      refine lv_iload hx hb dX8_does_206 (lv_at hl 0 rfl) ?_
                      refine lv_lload hx hb dX8_does_208 (lv_at hl 1 rfl) ?_
                      refine m_calli (m_runV (i := nm 0 7) (ci := 6) (As := [.ref (L (nm (cm + 2) 0)), .int o, .long v]) (rest := []) X (k_F8_goesElsewhere Γ l L (tS (tS x 0 7 1 (-1)) 0 7 2 0) h d cm om o v (by omega) ok hI hm hom ho40) v_X8_goesElsewhere ml_X8_68 hw hS rfl rfl rfl rfl hl.1 ⟨Nat.le_of_ble_eq_true rfl, Nat.le_of_ble_eq_true rfl⟩ (Nat.le_of_ble_eq_true rfl) ⟨Nat.le_of_ble_eq_true rfl, Nat.le_of_ble_eq_true rfl⟩ dX8_does_210) hS (fun r_10 L1 M1 H locs hp_10 hw hS => ?_)
                      obtain ⟨e1, u_10, ⟨h_10, d_10⟩, hd_10, e2, hm_10, hu_10⟩ := hp_10
                      have hd_10 : d_10 ≤ 8 := hd_10
                      rw [e1, e2] at hw; clear e1 e2
                      have hm_10 : mFo (f_els om o v (h, d)) r_10 (h_10, d_10) := hm_10
                      cases ho_10 : f_els om o v (h, d) with
                      | none =>
                        rw [ho_10] at hm_10
                        have hm_10 : r_10 = 0 := hm_10
                        subst hm_10
                        exact m_zret (b := false) X hr hlk hw hS (Nat.le_of_ble_eq_true rfl) (Nat.le_of_ble_eq_true rfl) rfl ⟨rfl, u_10, 0, (h_10, d_10), by show d_10 ≤ 8; omega, by rw [tS_sw], by rw [← ho_o, ← ho_v]; first | (rw [op_mov (by assumption) (by assumption), ho_10]; exact mFo.n) | (rw [op_rec (by assumption) (by assumption), ho_10]; exact mFo.n) | (rw [op_new (by assumption), ho_10]; exact mFo.n) | (rw [op_made (by assumption) (by assumption) (by assumption), ho_10]; exact mFo.n) | (rw [op_arr (by assumption) (by assumption), ho_10]; exact mFo.n) | (rw [op_obj (by assumption) (by assumption), ho_10]; exact mFo.n) | (rw [op_tur (by assumption) (by assumption), ho_10]; exact mFo.n) | (rw [op_call (by assumption), ho_10]; exact mFo.n) | (rw [op_els (by assumption) (by assumption) (by assumption), ho_10]; exact mFo.n), fun z9 => absurd z9 (by decide)⟩ dX8_does_213
                      | some z_10 =>
                        rw [ho_10] at hm_10
                        have hm_10 : r_10 = 1 ∧ (h_10, d_10) = z_10 := hm_10
                        obtain ⟨e3, e4⟩ := hm_10
                        subst e3; subst e4
                        have hu_10 := hu_10 rfl
                        exact m_zret (b := true) X hr hlk hw hS (Nat.le_of_ble_eq_true rfl) (Nat.le_of_ble_eq_true rfl) rfl ⟨rfl, u_10, 0, (h_10, d_10), by show d_10 ≤ 8; omega, by rw [tS_sw], by rw [← ho_o, ← ho_v]; first | (rw [op_mov (by assumption) (by assumption), ho_10]; exact mFo.s) | (rw [op_rec (by assumption) (by assumption), ho_10]; exact mFo.s) | (rw [op_new (by assumption), ho_10]; exact mFo.s) | (rw [op_made (by assumption) (by assumption) (by assumption), ho_10]; exact mFo.s) | (rw [op_arr (by assumption) (by assumption), ho_10]; exact mFo.s) | (rw [op_obj (by assumption) (by assumption), ho_10]; exact mFo.s) | (rw [op_tur (by assumption) (by assumption), ho_10]; exact mFo.s) | (rw [op_call (by assumption), ho_10]; exact mFo.s) | (rw [op_els (by assumption) (by assumption) (by assumption), ho_10]; exact mFo.s), fun _ => ⟨by rw [← ho_o, hla]; rfl, by rw [← ho_o, ← ho_v]; first | (rw [leads_lo (n := 6) (by assumption) (by decide)]; rfl) | (rw [leads_lo (n := 11) (by assumption) (by decide)]; rfl) | (rw [leads_lo (n := 13) (by assumption) (by decide)]; rfl) | (rw [leads_lo (n := 20) (by assumption) (by decide)]; rfl) | (rw [leads_lo (n := 25) (by assumption) (by decide)]; rfl) | (rw [leads_lo (n := 28) (by assumption) (by decide)]; rfl) | (rw [show o = 33 by assumption]; rfl) | exact els_u (by assumption) (by assumption) (by assumption) rfl hu_10⟩⟩ dX8_does_213
                    · skip
                      refine lv_aload_n hx hb dX8_does_193 rfl (lv_at hl 2 rfl) ?_
                      refine lv_aload_n hx hb dX8_does_194 rfl (lv_at hl 3 rfl) ?_
                      refine lv_aload_n hx hb dX8_does_195 rfl (lv_at hl 4 rfl) ?_
                      refine lv_lload hx hb dX8_does_196 (lv_at hl 1 rfl) ?_
                      refine m_calli (m_runV (i := nm 0 7) (ci := 6) (As := [.ref (L (nm 0 1)), .ref (L (nm (cm + 2) 0)), .long v]) (rest := []) X (k_F8_calls Γ l L (tS (tS x 0 7 1 (-1)) 0 7 2 0) h d cm pm v (by omega) ok hI hm hpm) v_X8_calls ml_X8_64 hw hS rfl rfl rfl rfl hl.1 ⟨Nat.le_of_ble_eq_true rfl, Nat.le_of_ble_eq_true rfl⟩ (Nat.le_of_ble_eq_true rfl) ⟨Nat.le_of_ble_eq_true rfl, Nat.le_of_ble_eq_true rfl⟩ dX8_does_198) hS (fun r_11 L1 M1 H locs hp_11 hw hS => ?_)
                      obtain ⟨⟨h_11, d_11⟩, hd_11, e1, e2, hm_11⟩ := hp_11
                      have hd_11 : d_11 ≤ 8 := hd_11
                      rw [e1, e2] at hw; clear e1 e2
                      have hm_11 : mFo (p_33 cm pm v (h, d)) r_11 (h_11, d_11) := hm_11
                      cases ho_11 : p_33 cm pm v (h, d) with
                      | none =>
                        rw [ho_11] at hm_11
                        have hm_11 : r_11 = 0 := hm_11
                        subst hm_11
                        refine lv_goto (tgt := 213) hx hb dX8_does_201 (by decide) ?_
                        exact m_zret (b := false) X hr hlk hw hS (Nat.le_of_ble_eq_true rfl) (Nat.le_of_ble_eq_true rfl) rfl ⟨rfl, -1, 0, (h_11, d_11), by show d_11 ≤ 8; omega, rfl, by rw [← ho_o, ← ho_v]; first | (rw [op_mov (by assumption) (by assumption), ho_11]; exact mFo.n) | (rw [op_rec (by assumption) (by assumption), ho_11]; exact mFo.n) | (rw [op_new (by assumption), ho_11]; exact mFo.n) | (rw [op_made (by assumption) (by assumption) (by assumption), ho_11]; exact mFo.n) | (rw [op_arr (by assumption) (by assumption), ho_11]; exact mFo.n) | (rw [op_obj (by assumption) (by assumption), ho_11]; exact mFo.n) | (rw [op_tur (by assumption) (by assumption), ho_11]; exact mFo.n) | (rw [op_call (by assumption), ho_11]; exact mFo.n) | (rw [op_els (by assumption) (by assumption) (by assumption), ho_11]; exact mFo.n), fun z9 => absurd z9 (by decide)⟩ dX8_does_213
                      | some z_11 =>
                        rw [ho_11] at hm_11
                        have hm_11 : r_11 = 1 ∧ (h_11, d_11) = z_11 := hm_11
                        obtain ⟨e3, e4⟩ := hm_11
                        subst e3; subst e4
                        refine lv_goto (tgt := 213) hx hb dX8_does_201 (by decide) ?_
                        exact m_zret (b := true) X hr hlk hw hS (Nat.le_of_ble_eq_true rfl) (Nat.le_of_ble_eq_true rfl) rfl ⟨rfl, -1, 0, (h_11, d_11), by show d_11 ≤ 8; omega, rfl, by rw [← ho_o, ← ho_v]; first | (rw [op_mov (by assumption) (by assumption), ho_11]; exact mFo.s) | (rw [op_rec (by assumption) (by assumption), ho_11]; exact mFo.s) | (rw [op_new (by assumption), ho_11]; exact mFo.s) | (rw [op_made (by assumption) (by assumption) (by assumption), ho_11]; exact mFo.s) | (rw [op_arr (by assumption) (by assumption), ho_11]; exact mFo.s) | (rw [op_obj (by assumption) (by assumption), ho_11]; exact mFo.s) | (rw [op_tur (by assumption) (by assumption), ho_11]; exact mFo.s) | (rw [op_call (by assumption), ho_11]; exact mFo.s) | (rw [op_els (by assumption) (by assumption) (by assumption), ho_11]; exact mFo.s), fun _ => ⟨by rw [← ho_o, hla]; rfl, by rw [← ho_o, ← ho_v]; first | (rw [leads_lo (n := 6) (by assumption) (by decide)]; rfl) | (rw [leads_lo (n := 11) (by assumption) (by decide)]; rfl) | (rw [leads_lo (n := 13) (by assumption) (by decide)]; rfl) | (rw [leads_lo (n := 20) (by assumption) (by decide)]; rfl) | (rw [leads_lo (n := 25) (by assumption) (by decide)]; rfl) | (rw [leads_lo (n := 28) (by assumption) (by decide)]; rfl) | (rw [show o = 33 by assumption]; rfl) | exact els_u (by assumption) (by assumption) (by assumption) rfl rfl⟩⟩ dX8_does_213
                  · skip
                    refine lv_aload_n hx hb dX8_does_179 rfl (lv_at hl 2 rfl) ?_
                    refine lv_iload hx hb dX8_does_180 (lv_at hl 0 rfl) ?_
                    refine m_calli (m_runV (i := nm 0 7) (ci := 6) (As := [.int o]) (rest := []) X (k_F8_turns Γ l L (tS (tS x 0 7 1 (-1)) 0 7 2 0) h d o (by omega) ok) v_X8_turns ml_X8_60 hw hS rfl rfl rfl rfl hl.1 ⟨Nat.le_of_ble_eq_true rfl, Nat.le_of_ble_eq_true rfl⟩ (Nat.le_of_ble_eq_true rfl) ⟨Nat.le_of_ble_eq_true rfl, Nat.le_of_ble_eq_true rfl⟩ dX8_does_182) hS (fun r_12 L1 M1 H locs hp_12 hw hS => ?_)
                    obtain ⟨⟨h_12, d_12⟩, hd_12, e1, e2, hm_12⟩ := hp_12
                    have hd_12 : d_12 ≤ 8 := hd_12
                    rw [e1, e2] at hw; clear e1 e2
                    have hm_12 : mFo (f_tur o (h, d)) r_12 (h_12, d_12) := hm_12
                    cases ho_12 : f_tur o (h, d) with
                    | none =>
                      rw [ho_12] at hm_12
                      have hm_12 : r_12 = 0 := hm_12
                      subst hm_12
                      exact m_zret (b := false) X hr hlk hw hS (Nat.le_of_ble_eq_true rfl) (Nat.le_of_ble_eq_true rfl) rfl ⟨rfl, -1, 0, (h_12, d_12), by show d_12 ≤ 8; omega, rfl, by rw [← ho_o, ← ho_v]; first | (rw [op_mov (by assumption) (by assumption), ho_12]; exact mFo.n) | (rw [op_rec (by assumption) (by assumption), ho_12]; exact mFo.n) | (rw [op_new (by assumption), ho_12]; exact mFo.n) | (rw [op_made (by assumption) (by assumption) (by assumption), ho_12]; exact mFo.n) | (rw [op_arr (by assumption) (by assumption), ho_12]; exact mFo.n) | (rw [op_obj (by assumption) (by assumption), ho_12]; exact mFo.n) | (rw [op_tur (by assumption) (by assumption), ho_12]; exact mFo.n) | (rw [op_call (by assumption), ho_12]; exact mFo.n) | (rw [op_els (by assumption) (by assumption) (by assumption), ho_12]; exact mFo.n), fun z9 => absurd z9 (by decide)⟩ dX8_does_185
                    | some z_12 =>
                      rw [ho_12] at hm_12
                      have hm_12 : r_12 = 1 ∧ (h_12, d_12) = z_12 := hm_12
                      obtain ⟨e3, e4⟩ := hm_12
                      subst e3; subst e4
                      exact m_zret (b := true) X hr hlk hw hS (Nat.le_of_ble_eq_true rfl) (Nat.le_of_ble_eq_true rfl) rfl ⟨rfl, -1, 0, (h_12, d_12), by show d_12 ≤ 8; omega, rfl, by rw [← ho_o, ← ho_v]; first | (rw [op_mov (by assumption) (by assumption), ho_12]; exact mFo.s) | (rw [op_rec (by assumption) (by assumption), ho_12]; exact mFo.s) | (rw [op_new (by assumption), ho_12]; exact mFo.s) | (rw [op_made (by assumption) (by assumption) (by assumption), ho_12]; exact mFo.s) | (rw [op_arr (by assumption) (by assumption), ho_12]; exact mFo.s) | (rw [op_obj (by assumption) (by assumption), ho_12]; exact mFo.s) | (rw [op_tur (by assumption) (by assumption), ho_12]; exact mFo.s) | (rw [op_call (by assumption), ho_12]; exact mFo.s) | (rw [op_els (by assumption) (by assumption) (by assumption), ho_12]; exact mFo.s), fun _ => ⟨by rw [← ho_o, hla]; rfl, by rw [← ho_o, ← ho_v]; first | (rw [leads_lo (n := 6) (by assumption) (by decide)]; rfl) | (rw [leads_lo (n := 11) (by assumption) (by decide)]; rfl) | (rw [leads_lo (n := 13) (by assumption) (by decide)]; rfl) | (rw [leads_lo (n := 20) (by assumption) (by decide)]; rfl) | (rw [leads_lo (n := 25) (by assumption) (by decide)]; rfl) | (rw [leads_lo (n := 28) (by assumption) (by decide)]; rfl) | (rw [show o = 33 by assumption]; rfl) | exact els_u (by assumption) (by assumption) (by assumption) rfl rfl⟩⟩ dX8_does_185
                · skip
                  refine lv_aload_n hx hb dX8_does_163 rfl (lv_at hl 2 rfl) ?_
                  refine lv_iload hx hb dX8_does_164 (lv_at hl 0 rfl) ?_
                  refine lv_lload hx hb dX8_does_166 (lv_at hl 1 rfl) ?_
                  refine m_calli (m_runV (i := nm 0 7) (ci := 6) (As := [.int o, .long v]) (rest := []) X (k_F8_usesObject Γ l L (tS (tS x 0 7 1 (-1)) 0 7 2 0) h d o v (by omega) ok) v_X8_usesObject ml_X8_57 hw hS rfl rfl rfl rfl hl.1 ⟨Nat.le_of_ble_eq_true rfl, Nat.le_of_ble_eq_true rfl⟩ (Nat.le_of_ble_eq_true rfl) ⟨Nat.le_of_ble_eq_true rfl, Nat.le_of_ble_eq_true rfl⟩ dX8_does_168) hS (fun r_13 L1 M1 H locs hp_13 hw hS => ?_)
                  obtain ⟨⟨h_13, d_13⟩, hd_13, e1, e2, hm_13⟩ := hp_13
                  have hd_13 : d_13 ≤ 8 := hd_13
                  rw [e1, e2] at hw; clear e1 e2
                  have hm_13 : mFo (f_obj o v (h, d)) r_13 (h_13, d_13) := hm_13
                  cases ho_13 : f_obj o v (h, d) with
                  | none =>
                    rw [ho_13] at hm_13
                    have hm_13 : r_13 = 0 := hm_13
                    subst hm_13
                    exact m_zret (b := false) X hr hlk hw hS (Nat.le_of_ble_eq_true rfl) (Nat.le_of_ble_eq_true rfl) rfl ⟨rfl, -1, 0, (h_13, d_13), by show d_13 ≤ 8; omega, rfl, by rw [← ho_o, ← ho_v]; first | (rw [op_mov (by assumption) (by assumption), ho_13]; exact mFo.n) | (rw [op_rec (by assumption) (by assumption), ho_13]; exact mFo.n) | (rw [op_new (by assumption), ho_13]; exact mFo.n) | (rw [op_made (by assumption) (by assumption) (by assumption), ho_13]; exact mFo.n) | (rw [op_arr (by assumption) (by assumption), ho_13]; exact mFo.n) | (rw [op_obj (by assumption) (by assumption), ho_13]; exact mFo.n) | (rw [op_tur (by assumption) (by assumption), ho_13]; exact mFo.n) | (rw [op_call (by assumption), ho_13]; exact mFo.n) | (rw [op_els (by assumption) (by assumption) (by assumption), ho_13]; exact mFo.n), fun z9 => absurd z9 (by decide)⟩ dX8_does_171
                  | some z_13 =>
                    rw [ho_13] at hm_13
                    have hm_13 : r_13 = 1 ∧ (h_13, d_13) = z_13 := hm_13
                    obtain ⟨e3, e4⟩ := hm_13
                    subst e3; subst e4
                    exact m_zret (b := true) X hr hlk hw hS (Nat.le_of_ble_eq_true rfl) (Nat.le_of_ble_eq_true rfl) rfl ⟨rfl, -1, 0, (h_13, d_13), by show d_13 ≤ 8; omega, rfl, by rw [← ho_o, ← ho_v]; first | (rw [op_mov (by assumption) (by assumption), ho_13]; exact mFo.s) | (rw [op_rec (by assumption) (by assumption), ho_13]; exact mFo.s) | (rw [op_new (by assumption), ho_13]; exact mFo.s) | (rw [op_made (by assumption) (by assumption) (by assumption), ho_13]; exact mFo.s) | (rw [op_arr (by assumption) (by assumption), ho_13]; exact mFo.s) | (rw [op_obj (by assumption) (by assumption), ho_13]; exact mFo.s) | (rw [op_tur (by assumption) (by assumption), ho_13]; exact mFo.s) | (rw [op_call (by assumption), ho_13]; exact mFo.s) | (rw [op_els (by assumption) (by assumption) (by assumption), ho_13]; exact mFo.s), fun _ => ⟨by rw [← ho_o, hla]; rfl, by rw [← ho_o, ← ho_v]; first | (rw [leads_lo (n := 6) (by assumption) (by decide)]; rfl) | (rw [leads_lo (n := 11) (by assumption) (by decide)]; rfl) | (rw [leads_lo (n := 13) (by assumption) (by decide)]; rfl) | (rw [leads_lo (n := 20) (by assumption) (by decide)]; rfl) | (rw [leads_lo (n := 25) (by assumption) (by decide)]; rfl) | (rw [leads_lo (n := 28) (by assumption) (by decide)]; rfl) | (rw [show o = 33 by assumption]; rfl) | exact els_u (by assumption) (by assumption) (by assumption) rfl rfl⟩⟩ dX8_does_171
              · skip
                refine lv_aload_n hx hb dX8_does_147 rfl (lv_at hl 2 rfl) ?_
                refine lv_iload hx hb dX8_does_148 (lv_at hl 0 rfl) ?_
                refine lv_lload hx hb dX8_does_150 (lv_at hl 1 rfl) ?_
                refine m_calli (m_runV (i := nm 0 7) (ci := 6) (As := [.int o, .long v]) (rest := []) X (k_F8_usesArray Γ l L (tS (tS x 0 7 1 (-1)) 0 7 2 0) h d o v (by omega) ok) v_X8_usesArray ml_X8_54 hw hS rfl rfl rfl rfl hl.1 ⟨Nat.le_of_ble_eq_true rfl, Nat.le_of_ble_eq_true rfl⟩ (Nat.le_of_ble_eq_true rfl) ⟨Nat.le_of_ble_eq_true rfl, Nat.le_of_ble_eq_true rfl⟩ dX8_does_152) hS (fun r_14 L1 M1 H locs hp_14 hw hS => ?_)
                obtain ⟨⟨h_14, d_14⟩, hd_14, e1, e2, hm_14⟩ := hp_14
                have hd_14 : d_14 ≤ 8 := hd_14
                rw [e1, e2] at hw; clear e1 e2
                have hm_14 : mFo (f_arr o v (h, d)) r_14 (h_14, d_14) := hm_14
                cases ho_14 : f_arr o v (h, d) with
                | none =>
                  rw [ho_14] at hm_14
                  have hm_14 : r_14 = 0 := hm_14
                  subst hm_14
                  exact m_zret (b := false) X hr hlk hw hS (Nat.le_of_ble_eq_true rfl) (Nat.le_of_ble_eq_true rfl) rfl ⟨rfl, -1, 0, (h_14, d_14), by show d_14 ≤ 8; omega, rfl, by rw [← ho_o, ← ho_v]; first | (rw [op_mov (by assumption) (by assumption), ho_14]; exact mFo.n) | (rw [op_rec (by assumption) (by assumption), ho_14]; exact mFo.n) | (rw [op_new (by assumption), ho_14]; exact mFo.n) | (rw [op_made (by assumption) (by assumption) (by assumption), ho_14]; exact mFo.n) | (rw [op_arr (by assumption) (by assumption), ho_14]; exact mFo.n) | (rw [op_obj (by assumption) (by assumption), ho_14]; exact mFo.n) | (rw [op_tur (by assumption) (by assumption), ho_14]; exact mFo.n) | (rw [op_call (by assumption), ho_14]; exact mFo.n) | (rw [op_els (by assumption) (by assumption) (by assumption), ho_14]; exact mFo.n), fun z9 => absurd z9 (by decide)⟩ dX8_does_155
                | some z_14 =>
                  rw [ho_14] at hm_14
                  have hm_14 : r_14 = 1 ∧ (h_14, d_14) = z_14 := hm_14
                  obtain ⟨e3, e4⟩ := hm_14
                  subst e3; subst e4
                  exact m_zret (b := true) X hr hlk hw hS (Nat.le_of_ble_eq_true rfl) (Nat.le_of_ble_eq_true rfl) rfl ⟨rfl, -1, 0, (h_14, d_14), by show d_14 ≤ 8; omega, rfl, by rw [← ho_o, ← ho_v]; first | (rw [op_mov (by assumption) (by assumption), ho_14]; exact mFo.s) | (rw [op_rec (by assumption) (by assumption), ho_14]; exact mFo.s) | (rw [op_new (by assumption), ho_14]; exact mFo.s) | (rw [op_made (by assumption) (by assumption) (by assumption), ho_14]; exact mFo.s) | (rw [op_arr (by assumption) (by assumption), ho_14]; exact mFo.s) | (rw [op_obj (by assumption) (by assumption), ho_14]; exact mFo.s) | (rw [op_tur (by assumption) (by assumption), ho_14]; exact mFo.s) | (rw [op_call (by assumption), ho_14]; exact mFo.s) | (rw [op_els (by assumption) (by assumption) (by assumption), ho_14]; exact mFo.s), fun _ => ⟨by rw [← ho_o, hla]; rfl, by rw [← ho_o, ← ho_v]; first | (rw [leads_lo (n := 6) (by assumption) (by decide)]; rfl) | (rw [leads_lo (n := 11) (by assumption) (by decide)]; rfl) | (rw [leads_lo (n := 13) (by assumption) (by decide)]; rfl) | (rw [leads_lo (n := 20) (by assumption) (by decide)]; rfl) | (rw [leads_lo (n := 25) (by assumption) (by decide)]; rfl) | (rw [leads_lo (n := 28) (by assumption) (by decide)]; rfl) | (rw [show o = 33 by assumption]; rfl) | exact els_u (by assumption) (by assumption) (by assumption) rfl rfl⟩⟩ dX8_does_155
            · skip
              refine lv_iload hx hb dX8_does_115 (lv_at hl 0 rfl) ?_
              refine lv_bipush (v := 12) hx hb dX8_does_117 (by decide) ?_
              refine lv_icmp_ne (tgt := 132) hx hb dX8_does_119 (by decide) (fun c_15 => ?_) (fun c_15 => ?_)
              · skip
                refine lv_aload_n hx hb dX8_does_132 rfl (lv_at hl 2 rfl) ?_
                refine lv_aload_n hx hb dX8_does_133 rfl (lv_at hl 4 rfl) ?_
                refine lv_lload hx hb dX8_does_134 (lv_at hl 1 rfl) ?_
                refine m_calli (m_runV (i := nm 0 7) (ci := 6) (As := [.ref (L (nm (cm + 2) 0)), .long v]) (rest := []) X (k_F8_finishes Γ l L (tS (tS x 0 7 1 (-1)) 0 7 2 0) h d cm om v (by omega) ok hI hm hom ho40) v_X8_finishes ml_X8_50 hw hS rfl rfl rfl rfl hl.1 ⟨Nat.le_of_ble_eq_true rfl, Nat.le_of_ble_eq_true rfl⟩ (Nat.le_of_ble_eq_true rfl) ⟨Nat.le_of_ble_eq_true rfl, Nat.le_of_ble_eq_true rfl⟩ dX8_does_136) hS (fun r_16 L1 M1 H locs hp_16 hw hS => ?_)
                obtain ⟨⟨h_16, d_16⟩, hd_16, e1, e2, hm_16⟩ := hp_16
                have hd_16 : d_16 ≤ 8 := hd_16
                rw [e1, e2] at hw; clear e1 e2
                have hm_16 : mFo (p_made (x.2.1 (cm + 2) 1) (x.2.2.1 (cm + 2) 2) om (h, d) v) r_16 (h_16, d_16) := hm_16
                cases ho_16 : p_made (x.2.1 (cm + 2) 1) (x.2.2.1 (cm + 2) 2) om (h, d) v with
                | none =>
                  rw [ho_16] at hm_16
                  have hm_16 : r_16 = 0 := hm_16
                  subst hm_16
                  exact m_zret (b := false) X hr hlk hw hS (Nat.le_of_ble_eq_true rfl) (Nat.le_of_ble_eq_true rfl) rfl ⟨rfl, -1, 0, (h_16, d_16), by show d_16 ≤ 8; omega, rfl, by rw [← ho_o, ← ho_v]; first | (rw [op_mov (by assumption) (by assumption), ho_16]; exact mFo.n) | (rw [op_rec (by assumption) (by assumption), ho_16]; exact mFo.n) | (rw [op_new (by assumption), ho_16]; exact mFo.n) | (rw [op_made (by assumption) (by assumption) (by assumption), ho_16]; exact mFo.n) | (rw [op_arr (by assumption) (by assumption), ho_16]; exact mFo.n) | (rw [op_obj (by assumption) (by assumption), ho_16]; exact mFo.n) | (rw [op_tur (by assumption) (by assumption), ho_16]; exact mFo.n) | (rw [op_call (by assumption), ho_16]; exact mFo.n) | (rw [op_els (by assumption) (by assumption) (by assumption), ho_16]; exact mFo.n), fun z9 => absurd z9 (by decide)⟩ dX8_does_139
                | some z_16 =>
                  rw [ho_16] at hm_16
                  have hm_16 : r_16 = 1 ∧ (h_16, d_16) = z_16 := hm_16
                  obtain ⟨e3, e4⟩ := hm_16
                  subst e3; subst e4
                  exact m_zret (b := true) X hr hlk hw hS (Nat.le_of_ble_eq_true rfl) (Nat.le_of_ble_eq_true rfl) rfl ⟨rfl, -1, 0, (h_16, d_16), by show d_16 ≤ 8; omega, rfl, by rw [← ho_o, ← ho_v]; first | (rw [op_mov (by assumption) (by assumption), ho_16]; exact mFo.s) | (rw [op_rec (by assumption) (by assumption), ho_16]; exact mFo.s) | (rw [op_new (by assumption), ho_16]; exact mFo.s) | (rw [op_made (by assumption) (by assumption) (by assumption), ho_16]; exact mFo.s) | (rw [op_arr (by assumption) (by assumption), ho_16]; exact mFo.s) | (rw [op_obj (by assumption) (by assumption), ho_16]; exact mFo.s) | (rw [op_tur (by assumption) (by assumption), ho_16]; exact mFo.s) | (rw [op_call (by assumption), ho_16]; exact mFo.s) | (rw [op_els (by assumption) (by assumption) (by assumption), ho_16]; exact mFo.s), fun _ => ⟨by rw [← ho_o, hla]; rfl, by rw [← ho_o, ← ho_v]; first | (rw [leads_lo (n := 6) (by assumption) (by decide)]; rfl) | (rw [leads_lo (n := 11) (by assumption) (by decide)]; rfl) | (rw [leads_lo (n := 13) (by assumption) (by decide)]; rfl) | (rw [leads_lo (n := 20) (by assumption) (by decide)]; rfl) | (rw [leads_lo (n := 25) (by assumption) (by decide)]; rfl) | (rw [leads_lo (n := 28) (by assumption) (by decide)]; rfl) | (rw [show o = 33 by assumption]; rfl) | exact els_u (by assumption) (by assumption) (by assumption) rfl rfl⟩⟩ dX8_does_139
              · skip
                refine lv_aload_n hx hb dX8_does_122 rfl (lv_at hl 2 rfl) ?_
                refine lv_iload_n hx hb dX8_does_123 rfl (lv_at hl 5 rfl) ?_
                refine lv_lload hx hb dX8_does_124 (lv_at hl 1 rfl) ?_
                refine m_calli (m_runV (i := nm 0 7) (ci := 6) (As := [.int k, .long v]) (rest := []) X (k_F8_begins Γ l L (tS (tS x 0 7 1 (-1)) 0 7 2 0) h d k v (by omega) ok) v_X8_begins ml_X8_47 hw hS rfl rfl rfl rfl hl.1 ⟨Nat.le_of_ble_eq_true rfl, Nat.le_of_ble_eq_true rfl⟩ (Nat.le_of_ble_eq_true rfl) ⟨Nat.le_of_ble_eq_true rfl, Nat.le_of_ble_eq_true rfl⟩ dX8_does_126) hS (fun r_17 L1 M1 H locs hp_17 hw hS => ?_)
                obtain ⟨⟨h_17, d_17⟩, hd_17, e1, e2, hm_17⟩ := hp_17
                have hd_17 : d_17 ≤ 8 := hd_17
                rw [e1, e2] at hw; clear e1 e2
                have hm_17 : mFo (p_new (h, d) k v) r_17 (h_17, d_17) := hm_17
                cases ho_17 : p_new (h, d) k v with
                | none =>
                  rw [ho_17] at hm_17
                  have hm_17 : r_17 = 0 := hm_17
                  subst hm_17
                  refine lv_goto (tgt := 139) hx hb dX8_does_129 (by decide) ?_
                  exact m_zret (b := false) X hr hlk hw hS (Nat.le_of_ble_eq_true rfl) (Nat.le_of_ble_eq_true rfl) rfl ⟨rfl, -1, 0, (h_17, d_17), by show d_17 ≤ 8; omega, rfl, by rw [← ho_o, ← ho_v]; first | (rw [op_mov (by assumption) (by assumption), ho_17]; exact mFo.n) | (rw [op_rec (by assumption) (by assumption), ho_17]; exact mFo.n) | (rw [op_new (by assumption), ho_17]; exact mFo.n) | (rw [op_made (by assumption) (by assumption) (by assumption), ho_17]; exact mFo.n) | (rw [op_arr (by assumption) (by assumption), ho_17]; exact mFo.n) | (rw [op_obj (by assumption) (by assumption), ho_17]; exact mFo.n) | (rw [op_tur (by assumption) (by assumption), ho_17]; exact mFo.n) | (rw [op_call (by assumption), ho_17]; exact mFo.n) | (rw [op_els (by assumption) (by assumption) (by assumption), ho_17]; exact mFo.n), fun z9 => absurd z9 (by decide)⟩ dX8_does_139
                | some z_17 =>
                  rw [ho_17] at hm_17
                  have hm_17 : r_17 = 1 ∧ (h_17, d_17) = z_17 := hm_17
                  obtain ⟨e3, e4⟩ := hm_17
                  subst e3; subst e4
                  refine lv_goto (tgt := 139) hx hb dX8_does_129 (by decide) ?_
                  exact m_zret (b := true) X hr hlk hw hS (Nat.le_of_ble_eq_true rfl) (Nat.le_of_ble_eq_true rfl) rfl ⟨rfl, -1, 0, (h_17, d_17), by show d_17 ≤ 8; omega, rfl, by rw [← ho_o, ← ho_v]; first | (rw [op_mov (by assumption) (by assumption), ho_17]; exact mFo.s) | (rw [op_rec (by assumption) (by assumption), ho_17]; exact mFo.s) | (rw [op_new (by assumption), ho_17]; exact mFo.s) | (rw [op_made (by assumption) (by assumption) (by assumption), ho_17]; exact mFo.s) | (rw [op_arr (by assumption) (by assumption), ho_17]; exact mFo.s) | (rw [op_obj (by assumption) (by assumption), ho_17]; exact mFo.s) | (rw [op_tur (by assumption) (by assumption), ho_17]; exact mFo.s) | (rw [op_call (by assumption), ho_17]; exact mFo.s) | (rw [op_els (by assumption) (by assumption) (by assumption), ho_17]; exact mFo.s), fun _ => ⟨by rw [← ho_o, hla]; rfl, by rw [← ho_o, ← ho_v]; first | (rw [leads_lo (n := 6) (by assumption) (by decide)]; rfl) | (rw [leads_lo (n := 11) (by assumption) (by decide)]; rfl) | (rw [leads_lo (n := 13) (by assumption) (by decide)]; rfl) | (rw [leads_lo (n := 20) (by assumption) (by decide)]; rfl) | (rw [leads_lo (n := 25) (by assumption) (by decide)]; rfl) | (rw [leads_lo (n := 28) (by assumption) (by decide)]; rfl) | (rw [show o = 33 by assumption]; rfl) | exact els_u (by assumption) (by assumption) (by assumption) rfl rfl⟩⟩ dX8_does_139
          · skip
            refine lv_aload_n hx hb dX8_does_99 rfl (lv_at hl 2 rfl) ?_
            refine lv_iload hx hb dX8_does_100 (lv_at hl 0 rfl) ?_
            refine lv_lload hx hb dX8_does_102 (lv_at hl 1 rfl) ?_
            refine m_calli (m_runV (i := nm 0 7) (ci := 6) (As := [.int o, .long v]) (rest := []) X (k_F8_reckons Γ l L (tS (tS x 0 7 1 (-1)) 0 7 2 0) h d o v (by omega) ok) v_X8_reckons ml_X8_44 hw hS rfl rfl rfl rfl hl.1 ⟨Nat.le_of_ble_eq_true rfl, Nat.le_of_ble_eq_true rfl⟩ (Nat.le_of_ble_eq_true rfl) ⟨Nat.le_of_ble_eq_true rfl, Nat.le_of_ble_eq_true rfl⟩ dX8_does_104) hS (fun r_18 L1 M1 H locs hp_18 hw hS => ?_)
            obtain ⟨⟨h_18, d_18⟩, hd_18, e1, e2, hm_18⟩ := hp_18
            have hd_18 : d_18 ≤ 8 := hd_18
            rw [e1, e2] at hw; clear e1 e2
            have hm_18 : mFo (f_rec o v (h, d)) r_18 (h_18, d_18) := hm_18
            cases ho_18 : f_rec o v (h, d) with
            | none =>
              rw [ho_18] at hm_18
              have hm_18 : r_18 = 0 := hm_18
              subst hm_18
              exact m_zret (b := false) X hr hlk hw hS (Nat.le_of_ble_eq_true rfl) (Nat.le_of_ble_eq_true rfl) rfl ⟨rfl, -1, 0, (h_18, d_18), by show d_18 ≤ 8; omega, rfl, by rw [← ho_o, ← ho_v]; first | (rw [op_mov (by assumption) (by assumption), ho_18]; exact mFo.n) | (rw [op_rec (by assumption) (by assumption), ho_18]; exact mFo.n) | (rw [op_new (by assumption), ho_18]; exact mFo.n) | (rw [op_made (by assumption) (by assumption) (by assumption), ho_18]; exact mFo.n) | (rw [op_arr (by assumption) (by assumption), ho_18]; exact mFo.n) | (rw [op_obj (by assumption) (by assumption), ho_18]; exact mFo.n) | (rw [op_tur (by assumption) (by assumption), ho_18]; exact mFo.n) | (rw [op_call (by assumption), ho_18]; exact mFo.n) | (rw [op_els (by assumption) (by assumption) (by assumption), ho_18]; exact mFo.n), fun z9 => absurd z9 (by decide)⟩ dX8_does_107
            | some z_18 =>
              rw [ho_18] at hm_18
              have hm_18 : r_18 = 1 ∧ (h_18, d_18) = z_18 := hm_18
              obtain ⟨e3, e4⟩ := hm_18
              subst e3; subst e4
              exact m_zret (b := true) X hr hlk hw hS (Nat.le_of_ble_eq_true rfl) (Nat.le_of_ble_eq_true rfl) rfl ⟨rfl, -1, 0, (h_18, d_18), by show d_18 ≤ 8; omega, rfl, by rw [← ho_o, ← ho_v]; first | (rw [op_mov (by assumption) (by assumption), ho_18]; exact mFo.s) | (rw [op_rec (by assumption) (by assumption), ho_18]; exact mFo.s) | (rw [op_new (by assumption), ho_18]; exact mFo.s) | (rw [op_made (by assumption) (by assumption) (by assumption), ho_18]; exact mFo.s) | (rw [op_arr (by assumption) (by assumption), ho_18]; exact mFo.s) | (rw [op_obj (by assumption) (by assumption), ho_18]; exact mFo.s) | (rw [op_tur (by assumption) (by assumption), ho_18]; exact mFo.s) | (rw [op_call (by assumption), ho_18]; exact mFo.s) | (rw [op_els (by assumption) (by assumption) (by assumption), ho_18]; exact mFo.s), fun _ => ⟨by rw [← ho_o, hla]; rfl, by rw [← ho_o, ← ho_v]; first | (rw [leads_lo (n := 6) (by assumption) (by decide)]; rfl) | (rw [leads_lo (n := 11) (by assumption) (by decide)]; rfl) | (rw [leads_lo (n := 13) (by assumption) (by decide)]; rfl) | (rw [leads_lo (n := 20) (by assumption) (by decide)]; rfl) | (rw [leads_lo (n := 25) (by assumption) (by decide)]; rfl) | (rw [leads_lo (n := 28) (by assumption) (by decide)]; rfl) | (rw [show o = 33 by assumption]; rfl) | exact els_u (by assumption) (by assumption) (by assumption) rfl rfl⟩⟩ dX8_does_107
        · skip
          refine lv_aload_n hx hb dX8_does_83 rfl (lv_at hl 2 rfl) ?_
          refine lv_iload hx hb dX8_does_84 (lv_at hl 0 rfl) ?_
          refine lv_lload hx hb dX8_does_86 (lv_at hl 1 rfl) ?_
          refine m_calli (m_runV (i := nm 0 7) (ci := 6) (As := [.int o, .long v]) (rest := []) X (k_F8_moves Γ l L (tS (tS x 0 7 1 (-1)) 0 7 2 0) h d o v (by omega) ok) v_X8_moves ml_X8_40 hw hS rfl rfl rfl rfl hl.1 ⟨Nat.le_of_ble_eq_true rfl, Nat.le_of_ble_eq_true rfl⟩ (Nat.le_of_ble_eq_true rfl) ⟨Nat.le_of_ble_eq_true rfl, Nat.le_of_ble_eq_true rfl⟩ dX8_does_88) hS (fun r_19 L1 M1 H locs hp_19 hw hS => ?_)
          obtain ⟨⟨h_19, d_19⟩, hd_19, e1, e2, hm_19⟩ := hp_19
          have hd_19 : d_19 ≤ 8 := hd_19
          rw [e1, e2] at hw; clear e1 e2
          have hm_19 : mFo (f_mov o v (h, d)) r_19 (h_19, d_19) := hm_19
          cases ho_19 : f_mov o v (h, d) with
          | none =>
            rw [ho_19] at hm_19
            have hm_19 : r_19 = 0 := hm_19
            subst hm_19
            exact m_zret (b := false) X hr hlk hw hS (Nat.le_of_ble_eq_true rfl) (Nat.le_of_ble_eq_true rfl) rfl ⟨rfl, -1, 0, (h_19, d_19), by show d_19 ≤ 8; omega, rfl, by rw [← ho_o, ← ho_v]; first | (rw [op_mov (by assumption) (by assumption), ho_19]; exact mFo.n) | (rw [op_rec (by assumption) (by assumption), ho_19]; exact mFo.n) | (rw [op_new (by assumption), ho_19]; exact mFo.n) | (rw [op_made (by assumption) (by assumption) (by assumption), ho_19]; exact mFo.n) | (rw [op_arr (by assumption) (by assumption), ho_19]; exact mFo.n) | (rw [op_obj (by assumption) (by assumption), ho_19]; exact mFo.n) | (rw [op_tur (by assumption) (by assumption), ho_19]; exact mFo.n) | (rw [op_call (by assumption), ho_19]; exact mFo.n) | (rw [op_els (by assumption) (by assumption) (by assumption), ho_19]; exact mFo.n), fun z9 => absurd z9 (by decide)⟩ dX8_does_91
          | some z_19 =>
            rw [ho_19] at hm_19
            have hm_19 : r_19 = 1 ∧ (h_19, d_19) = z_19 := hm_19
            obtain ⟨e3, e4⟩ := hm_19
            subst e3; subst e4
            exact m_zret (b := true) X hr hlk hw hS (Nat.le_of_ble_eq_true rfl) (Nat.le_of_ble_eq_true rfl) rfl ⟨rfl, -1, 0, (h_19, d_19), by show d_19 ≤ 8; omega, rfl, by rw [← ho_o, ← ho_v]; first | (rw [op_mov (by assumption) (by assumption), ho_19]; exact mFo.s) | (rw [op_rec (by assumption) (by assumption), ho_19]; exact mFo.s) | (rw [op_new (by assumption), ho_19]; exact mFo.s) | (rw [op_made (by assumption) (by assumption) (by assumption), ho_19]; exact mFo.s) | (rw [op_arr (by assumption) (by assumption), ho_19]; exact mFo.s) | (rw [op_obj (by assumption) (by assumption), ho_19]; exact mFo.s) | (rw [op_tur (by assumption) (by assumption), ho_19]; exact mFo.s) | (rw [op_call (by assumption), ho_19]; exact mFo.s) | (rw [op_els (by assumption) (by assumption) (by assumption), ho_19]; exact mFo.s), fun _ => ⟨by rw [← ho_o, hla]; rfl, by rw [← ho_o, ← ho_v]; first | (rw [leads_lo (n := 6) (by assumption) (by decide)]; rfl) | (rw [leads_lo (n := 11) (by assumption) (by decide)]; rfl) | (rw [leads_lo (n := 13) (by assumption) (by decide)]; rfl) | (rw [leads_lo (n := 20) (by assumption) (by decide)]; rfl) | (rw [leads_lo (n := 25) (by assumption) (by decide)]; rfl) | (rw [leads_lo (n := 28) (by assumption) (by decide)]; rfl) | (rw [show o = 33 by assumption]; rfl) | exact els_u (by assumption) (by assumption) (by assumption) rfl rfl⟩⟩ dX8_does_91
      · skip
        refine lv_iconst (v := 0) hx hb dX8_does_74 (by decide) ?_
        exact m_zret (b := false) X hr hlk hw hS (Nat.le_of_ble_eq_true rfl) (Nat.le_of_ble_eq_true rfl) rfl ⟨rfl, -1, 0, (h, d), by show d ≤ 8; omega, rfl, by rw [← ho_o, ← ho_v, op_bad (by first | exact Or.inl (by assumption) | exact Or.inr (by assumption))]; exact mFo.n, fun z9 => absurd z9 (by decide)⟩ dX8_does_75
  have K62_1 : ∀ (o : Int32) (v : Int64) (H : Heap) (locs : List Loc) (ls : Array Slot), o = x.2.1 (cm + 2) 1 kn → v = x.2.2.1 (cm + 2) 2 kn → r_last o = false → mW Γ.1 vwCl A L (cM Γ L (sP (tS (tS x 0 7 1 (-1)) 0 7 2 1) 0 8 (h, d))) H → va_S A s.heap H locs → lv_has ls 7 [(4, .int o), (5, .long v), (0, .ref (L (nm 0 7))), (1, .ref (L (nm 0 1))), (2, .ref (L (nm (cm + 2) 0))), (3, .int k)] → W p l e { frames := 4, cells := 0, slots := 0, locals := 90 } s m args below meth c H locs 0 0 (MQ below (mQi Γ (fun r L1 M1 => L1 = L ∧ ∃ (u w : Int32) (q : PL), q.2 ≤ 8 ∧ M1 = cM Γ L (sP (tS (tS x 0 7 1 u) 0 7 2 w) 0 8 q) ∧ mFo (p_op (x.2.1 (cm + 2) 1) (x.2.2.1 (cm + 2) 2) cm om pm k (x.2.1 (cm + 2) 1 kn) (x.2.2.1 (cm + 2) 2 kn) (h, d)) r q ∧ (r = 1 → w = bI (!r_last (x.2.1 (cm + 2) 1 kn)) ∧ u = if r_leads (x.2.1 (cm + 2) 1 kn) = true then (x.2.2.1 (cm + 2) 2 kn).toInt32 else -1)) A) args s 0 0 A) (F0 m 62 ls []) := by
    intro o v H locs ls ho_o ho_v hla hw hS hl
    have hI := (hI.free (b := 7) (k := 1) (v := -1) (by decide)).free (b := 7) (k := 2) (v := 1) (by decide)
    have hom : (tS (tS x 0 7 1 (-1)) 0 7 2 1).1 (cm + 2) 0 4 = nI om := (tS_rd (by omega)).trans ((tS_rd (by omega)).trans hom0)
    have hpm : ∀ t, t < cN (tS (tS x 0 7 1 (-1)) 0 7 2 1) → (tS (tS x 0 7 1 (-1)) 0 7 2 1).1 (t + 2) 0 1 = nI (pm t) ∧ pm t ≤ 4 := fun t ht => ⟨(tS_rd (by omega)).trans ((tS_rd (by omega)).trans (hpm t ht).1), (hpm t ht).2⟩
    refine lv_iload hx hb dX8_does_62 (lv_at hl 0 rfl) ?_
    refine lv_if_lt (tgt := 74) hx hb dX8_does_64 (by decide) (fun c_20 => ?_) (fun c_20 => ?_)
    · skip
      refine lv_iconst (v := 0) hx hb dX8_does_74 (by decide) ?_
      exact m_zret (b := false) X hr hlk hw hS (Nat.le_of_ble_eq_true rfl) (Nat.le_of_ble_eq_true rfl) rfl ⟨rfl, -1, 1, (h, d), by show d ≤ 8; omega, rfl, by rw [← ho_o, ← ho_v, op_bad (by first | exact Or.inl (by assumption) | exact Or.inr (by assumption))]; exact mFo.n, fun z9 => absurd z9 (by decide)⟩ dX8_does_75
    · skip
      refine lv_iload hx hb dX8_does_67 (lv_at hl 0 rfl) ?_
      refine lv_bipush (v := 34) hx hb dX8_does_69 (by decide) ?_
      refine lv_icmp_le (tgt := 76) hx hb dX8_does_71 (by decide) (fun c_21 => ?_) (fun c_21 => ?_)
      · skip
        refine lv_iload hx hb dX8_does_76 (lv_at hl 0 rfl) ?_
        refine lv_bipush (v := 6) hx hb dX8_does_78 (by decide) ?_
        refine lv_icmp_gt (tgt := 92) hx hb dX8_does_80 (by decide) (fun c_22 => ?_) (fun c_22 => ?_)
        · skip
          refine lv_iload hx hb dX8_does_92 (lv_at hl 0 rfl) ?_
          refine lv_bipush (v := 11) hx hb dX8_does_94 (by decide) ?_
          refine lv_icmp_gt (tgt := 108) hx hb dX8_does_96 (by decide) (fun c_23 => ?_) (fun c_23 => ?_)
          · skip
            refine lv_iload hx hb dX8_does_108 (lv_at hl 0 rfl) ?_
            refine lv_bipush (v := 13) hx hb dX8_does_110 (by decide) ?_
            refine lv_icmp_gt (tgt := 140) hx hb dX8_does_112 (by decide) (fun c_24 => ?_) (fun c_24 => ?_)
            · skip
              refine lv_iload hx hb dX8_does_140 (lv_at hl 0 rfl) ?_
              refine lv_bipush (v := 20) hx hb dX8_does_142 (by decide) ?_
              refine lv_icmp_gt (tgt := 156) hx hb dX8_does_144 (by decide) (fun c_25 => ?_) (fun c_25 => ?_)
              · skip
                refine lv_iload hx hb dX8_does_156 (lv_at hl 0 rfl) ?_
                refine lv_bipush (v := 25) hx hb dX8_does_158 (by decide) ?_
                refine lv_icmp_gt (tgt := 172) hx hb dX8_does_160 (by decide) (fun c_26 => ?_) (fun c_26 => ?_)
                · skip
                  refine lv_iload hx hb dX8_does_172 (lv_at hl 0 rfl) ?_
                  refine lv_bipush (v := 28) hx hb dX8_does_174 (by decide) ?_
                  refine lv_icmp_gt (tgt := 186) hx hb dX8_does_176 (by decide) (fun c_27 => ?_) (fun c_27 => ?_)
                  · skip
                    refine lv_iload hx hb dX8_does_186 (lv_at hl 0 rfl) ?_
                    refine lv_bipush (v := 33) hx hb dX8_does_188 (by decide) ?_
                    refine lv_icmp_ne (tgt := 204) hx hb dX8_does_190 (by decide) (fun c_28 => ?_) (fun c_28 => ?_)
                    · skip
                      refine lv_aload_n hx hb dX8_does_204 rfl (lv_at hl 2 rfl) ?_
                      refine lv_aload_n hx hb dX8_does_205 rfl (lv_at hl 4 rfl) ?_
                      refine lv_iload hx hb dX8_does_206 (lv_at hl 0 rfl) ?_
                      refine lv_lload hx hb dX8_does_208 (lv_at hl 1 rfl) ?_
                      refine m_calli (m_runV (i := nm 0 7) (ci := 6) (As := [.ref (L (nm (cm + 2) 0)), .int o, .long v]) (rest := []) X (k_F8_goesElsewhere Γ l L (tS (tS x 0 7 1 (-1)) 0 7 2 1) h d cm om o v (by omega) ok hI hm hom ho40) v_X8_goesElsewhere ml_X8_68 hw hS rfl rfl rfl rfl hl.1 ⟨Nat.le_of_ble_eq_true rfl, Nat.le_of_ble_eq_true rfl⟩ (Nat.le_of_ble_eq_true rfl) ⟨Nat.le_of_ble_eq_true rfl, Nat.le_of_ble_eq_true rfl⟩ dX8_does_210) hS (fun r_29 L1 M1 H locs hp_29 hw hS => ?_)
                      obtain ⟨e1, u_29, ⟨h_29, d_29⟩, hd_29, e2, hm_29, hu_29⟩ := hp_29
                      have hd_29 : d_29 ≤ 8 := hd_29
                      rw [e1, e2] at hw; clear e1 e2
                      have hm_29 : mFo (f_els om o v (h, d)) r_29 (h_29, d_29) := hm_29
                      cases ho_29 : f_els om o v (h, d) with
                      | none =>
                        rw [ho_29] at hm_29
                        have hm_29 : r_29 = 0 := hm_29
                        subst hm_29
                        exact m_zret (b := false) X hr hlk hw hS (Nat.le_of_ble_eq_true rfl) (Nat.le_of_ble_eq_true rfl) rfl ⟨rfl, u_29, 1, (h_29, d_29), by show d_29 ≤ 8; omega, by rw [tS_sw], by rw [← ho_o, ← ho_v]; first | (rw [op_mov (by assumption) (by assumption), ho_29]; exact mFo.n) | (rw [op_rec (by assumption) (by assumption), ho_29]; exact mFo.n) | (rw [op_new (by assumption), ho_29]; exact mFo.n) | (rw [op_made (by assumption) (by assumption) (by assumption), ho_29]; exact mFo.n) | (rw [op_arr (by assumption) (by assumption), ho_29]; exact mFo.n) | (rw [op_obj (by assumption) (by assumption), ho_29]; exact mFo.n) | (rw [op_tur (by assumption) (by assumption), ho_29]; exact mFo.n) | (rw [op_call (by assumption), ho_29]; exact mFo.n) | (rw [op_els (by assumption) (by assumption) (by assumption), ho_29]; exact mFo.n), fun z9 => absurd z9 (by decide)⟩ dX8_does_213
                      | some z_29 =>
                        rw [ho_29] at hm_29
                        have hm_29 : r_29 = 1 ∧ (h_29, d_29) = z_29 := hm_29
                        obtain ⟨e3, e4⟩ := hm_29
                        subst e3; subst e4
                        have hu_29 := hu_29 rfl
                        exact m_zret (b := true) X hr hlk hw hS (Nat.le_of_ble_eq_true rfl) (Nat.le_of_ble_eq_true rfl) rfl ⟨rfl, u_29, 1, (h_29, d_29), by show d_29 ≤ 8; omega, by rw [tS_sw], by rw [← ho_o, ← ho_v]; first | (rw [op_mov (by assumption) (by assumption), ho_29]; exact mFo.s) | (rw [op_rec (by assumption) (by assumption), ho_29]; exact mFo.s) | (rw [op_new (by assumption), ho_29]; exact mFo.s) | (rw [op_made (by assumption) (by assumption) (by assumption), ho_29]; exact mFo.s) | (rw [op_arr (by assumption) (by assumption), ho_29]; exact mFo.s) | (rw [op_obj (by assumption) (by assumption), ho_29]; exact mFo.s) | (rw [op_tur (by assumption) (by assumption), ho_29]; exact mFo.s) | (rw [op_call (by assumption), ho_29]; exact mFo.s) | (rw [op_els (by assumption) (by assumption) (by assumption), ho_29]; exact mFo.s), fun _ => ⟨by rw [← ho_o, hla]; rfl, by rw [← ho_o, ← ho_v]; first | (rw [leads_lo (n := 6) (by assumption) (by decide)]; rfl) | (rw [leads_lo (n := 11) (by assumption) (by decide)]; rfl) | (rw [leads_lo (n := 13) (by assumption) (by decide)]; rfl) | (rw [leads_lo (n := 20) (by assumption) (by decide)]; rfl) | (rw [leads_lo (n := 25) (by assumption) (by decide)]; rfl) | (rw [leads_lo (n := 28) (by assumption) (by decide)]; rfl) | (rw [show o = 33 by assumption]; rfl) | exact els_u (by assumption) (by assumption) (by assumption) rfl hu_29⟩⟩ dX8_does_213
                    · skip
                      refine lv_aload_n hx hb dX8_does_193 rfl (lv_at hl 2 rfl) ?_
                      refine lv_aload_n hx hb dX8_does_194 rfl (lv_at hl 3 rfl) ?_
                      refine lv_aload_n hx hb dX8_does_195 rfl (lv_at hl 4 rfl) ?_
                      refine lv_lload hx hb dX8_does_196 (lv_at hl 1 rfl) ?_
                      refine m_calli (m_runV (i := nm 0 7) (ci := 6) (As := [.ref (L (nm 0 1)), .ref (L (nm (cm + 2) 0)), .long v]) (rest := []) X (k_F8_calls Γ l L (tS (tS x 0 7 1 (-1)) 0 7 2 1) h d cm pm v (by omega) ok hI hm hpm) v_X8_calls ml_X8_64 hw hS rfl rfl rfl rfl hl.1 ⟨Nat.le_of_ble_eq_true rfl, Nat.le_of_ble_eq_true rfl⟩ (Nat.le_of_ble_eq_true rfl) ⟨Nat.le_of_ble_eq_true rfl, Nat.le_of_ble_eq_true rfl⟩ dX8_does_198) hS (fun r_30 L1 M1 H locs hp_30 hw hS => ?_)
                      obtain ⟨⟨h_30, d_30⟩, hd_30, e1, e2, hm_30⟩ := hp_30
                      have hd_30 : d_30 ≤ 8 := hd_30
                      rw [e1, e2] at hw; clear e1 e2
                      have hm_30 : mFo (p_33 cm pm v (h, d)) r_30 (h_30, d_30) := hm_30
                      cases ho_30 : p_33 cm pm v (h, d) with
                      | none =>
                        rw [ho_30] at hm_30
                        have hm_30 : r_30 = 0 := hm_30
                        subst hm_30
                        refine lv_goto (tgt := 213) hx hb dX8_does_201 (by decide) ?_
                        exact m_zret (b := false) X hr hlk hw hS (Nat.le_of_ble_eq_true rfl) (Nat.le_of_ble_eq_true rfl) rfl ⟨rfl, -1, 1, (h_30, d_30), by show d_30 ≤ 8; omega, rfl, by rw [← ho_o, ← ho_v]; first | (rw [op_mov (by assumption) (by assumption), ho_30]; exact mFo.n) | (rw [op_rec (by assumption) (by assumption), ho_30]; exact mFo.n) | (rw [op_new (by assumption), ho_30]; exact mFo.n) | (rw [op_made (by assumption) (by assumption) (by assumption), ho_30]; exact mFo.n) | (rw [op_arr (by assumption) (by assumption), ho_30]; exact mFo.n) | (rw [op_obj (by assumption) (by assumption), ho_30]; exact mFo.n) | (rw [op_tur (by assumption) (by assumption), ho_30]; exact mFo.n) | (rw [op_call (by assumption), ho_30]; exact mFo.n) | (rw [op_els (by assumption) (by assumption) (by assumption), ho_30]; exact mFo.n), fun z9 => absurd z9 (by decide)⟩ dX8_does_213
                      | some z_30 =>
                        rw [ho_30] at hm_30
                        have hm_30 : r_30 = 1 ∧ (h_30, d_30) = z_30 := hm_30
                        obtain ⟨e3, e4⟩ := hm_30
                        subst e3; subst e4
                        refine lv_goto (tgt := 213) hx hb dX8_does_201 (by decide) ?_
                        exact m_zret (b := true) X hr hlk hw hS (Nat.le_of_ble_eq_true rfl) (Nat.le_of_ble_eq_true rfl) rfl ⟨rfl, -1, 1, (h_30, d_30), by show d_30 ≤ 8; omega, rfl, by rw [← ho_o, ← ho_v]; first | (rw [op_mov (by assumption) (by assumption), ho_30]; exact mFo.s) | (rw [op_rec (by assumption) (by assumption), ho_30]; exact mFo.s) | (rw [op_new (by assumption), ho_30]; exact mFo.s) | (rw [op_made (by assumption) (by assumption) (by assumption), ho_30]; exact mFo.s) | (rw [op_arr (by assumption) (by assumption), ho_30]; exact mFo.s) | (rw [op_obj (by assumption) (by assumption), ho_30]; exact mFo.s) | (rw [op_tur (by assumption) (by assumption), ho_30]; exact mFo.s) | (rw [op_call (by assumption), ho_30]; exact mFo.s) | (rw [op_els (by assumption) (by assumption) (by assumption), ho_30]; exact mFo.s), fun _ => ⟨by rw [← ho_o, hla]; rfl, by rw [← ho_o, ← ho_v]; first | (rw [leads_lo (n := 6) (by assumption) (by decide)]; rfl) | (rw [leads_lo (n := 11) (by assumption) (by decide)]; rfl) | (rw [leads_lo (n := 13) (by assumption) (by decide)]; rfl) | (rw [leads_lo (n := 20) (by assumption) (by decide)]; rfl) | (rw [leads_lo (n := 25) (by assumption) (by decide)]; rfl) | (rw [leads_lo (n := 28) (by assumption) (by decide)]; rfl) | (rw [show o = 33 by assumption]; rfl) | exact els_u (by assumption) (by assumption) (by assumption) rfl rfl⟩⟩ dX8_does_213
                  · skip
                    refine lv_aload_n hx hb dX8_does_179 rfl (lv_at hl 2 rfl) ?_
                    refine lv_iload hx hb dX8_does_180 (lv_at hl 0 rfl) ?_
                    refine m_calli (m_runV (i := nm 0 7) (ci := 6) (As := [.int o]) (rest := []) X (k_F8_turns Γ l L (tS (tS x 0 7 1 (-1)) 0 7 2 1) h d o (by omega) ok) v_X8_turns ml_X8_60 hw hS rfl rfl rfl rfl hl.1 ⟨Nat.le_of_ble_eq_true rfl, Nat.le_of_ble_eq_true rfl⟩ (Nat.le_of_ble_eq_true rfl) ⟨Nat.le_of_ble_eq_true rfl, Nat.le_of_ble_eq_true rfl⟩ dX8_does_182) hS (fun r_31 L1 M1 H locs hp_31 hw hS => ?_)
                    obtain ⟨⟨h_31, d_31⟩, hd_31, e1, e2, hm_31⟩ := hp_31
                    have hd_31 : d_31 ≤ 8 := hd_31
                    rw [e1, e2] at hw; clear e1 e2
                    have hm_31 : mFo (f_tur o (h, d)) r_31 (h_31, d_31) := hm_31
                    cases ho_31 : f_tur o (h, d) with
                    | none =>
                      rw [ho_31] at hm_31
                      have hm_31 : r_31 = 0 := hm_31
                      subst hm_31
                      exact m_zret (b := false) X hr hlk hw hS (Nat.le_of_ble_eq_true rfl) (Nat.le_of_ble_eq_true rfl) rfl ⟨rfl, -1, 1, (h_31, d_31), by show d_31 ≤ 8; omega, rfl, by rw [← ho_o, ← ho_v]; first | (rw [op_mov (by assumption) (by assumption), ho_31]; exact mFo.n) | (rw [op_rec (by assumption) (by assumption), ho_31]; exact mFo.n) | (rw [op_new (by assumption), ho_31]; exact mFo.n) | (rw [op_made (by assumption) (by assumption) (by assumption), ho_31]; exact mFo.n) | (rw [op_arr (by assumption) (by assumption), ho_31]; exact mFo.n) | (rw [op_obj (by assumption) (by assumption), ho_31]; exact mFo.n) | (rw [op_tur (by assumption) (by assumption), ho_31]; exact mFo.n) | (rw [op_call (by assumption), ho_31]; exact mFo.n) | (rw [op_els (by assumption) (by assumption) (by assumption), ho_31]; exact mFo.n), fun z9 => absurd z9 (by decide)⟩ dX8_does_185
                    | some z_31 =>
                      rw [ho_31] at hm_31
                      have hm_31 : r_31 = 1 ∧ (h_31, d_31) = z_31 := hm_31
                      obtain ⟨e3, e4⟩ := hm_31
                      subst e3; subst e4
                      exact m_zret (b := true) X hr hlk hw hS (Nat.le_of_ble_eq_true rfl) (Nat.le_of_ble_eq_true rfl) rfl ⟨rfl, -1, 1, (h_31, d_31), by show d_31 ≤ 8; omega, rfl, by rw [← ho_o, ← ho_v]; first | (rw [op_mov (by assumption) (by assumption), ho_31]; exact mFo.s) | (rw [op_rec (by assumption) (by assumption), ho_31]; exact mFo.s) | (rw [op_new (by assumption), ho_31]; exact mFo.s) | (rw [op_made (by assumption) (by assumption) (by assumption), ho_31]; exact mFo.s) | (rw [op_arr (by assumption) (by assumption), ho_31]; exact mFo.s) | (rw [op_obj (by assumption) (by assumption), ho_31]; exact mFo.s) | (rw [op_tur (by assumption) (by assumption), ho_31]; exact mFo.s) | (rw [op_call (by assumption), ho_31]; exact mFo.s) | (rw [op_els (by assumption) (by assumption) (by assumption), ho_31]; exact mFo.s), fun _ => ⟨by rw [← ho_o, hla]; rfl, by rw [← ho_o, ← ho_v]; first | (rw [leads_lo (n := 6) (by assumption) (by decide)]; rfl) | (rw [leads_lo (n := 11) (by assumption) (by decide)]; rfl) | (rw [leads_lo (n := 13) (by assumption) (by decide)]; rfl) | (rw [leads_lo (n := 20) (by assumption) (by decide)]; rfl) | (rw [leads_lo (n := 25) (by assumption) (by decide)]; rfl) | (rw [leads_lo (n := 28) (by assumption) (by decide)]; rfl) | (rw [show o = 33 by assumption]; rfl) | exact els_u (by assumption) (by assumption) (by assumption) rfl rfl⟩⟩ dX8_does_185
                · skip
                  refine lv_aload_n hx hb dX8_does_163 rfl (lv_at hl 2 rfl) ?_
                  refine lv_iload hx hb dX8_does_164 (lv_at hl 0 rfl) ?_
                  refine lv_lload hx hb dX8_does_166 (lv_at hl 1 rfl) ?_
                  refine m_calli (m_runV (i := nm 0 7) (ci := 6) (As := [.int o, .long v]) (rest := []) X (k_F8_usesObject Γ l L (tS (tS x 0 7 1 (-1)) 0 7 2 1) h d o v (by omega) ok) v_X8_usesObject ml_X8_57 hw hS rfl rfl rfl rfl hl.1 ⟨Nat.le_of_ble_eq_true rfl, Nat.le_of_ble_eq_true rfl⟩ (Nat.le_of_ble_eq_true rfl) ⟨Nat.le_of_ble_eq_true rfl, Nat.le_of_ble_eq_true rfl⟩ dX8_does_168) hS (fun r_32 L1 M1 H locs hp_32 hw hS => ?_)
                  obtain ⟨⟨h_32, d_32⟩, hd_32, e1, e2, hm_32⟩ := hp_32
                  have hd_32 : d_32 ≤ 8 := hd_32
                  rw [e1, e2] at hw; clear e1 e2
                  have hm_32 : mFo (f_obj o v (h, d)) r_32 (h_32, d_32) := hm_32
                  cases ho_32 : f_obj o v (h, d) with
                  | none =>
                    rw [ho_32] at hm_32
                    have hm_32 : r_32 = 0 := hm_32
                    subst hm_32
                    exact m_zret (b := false) X hr hlk hw hS (Nat.le_of_ble_eq_true rfl) (Nat.le_of_ble_eq_true rfl) rfl ⟨rfl, -1, 1, (h_32, d_32), by show d_32 ≤ 8; omega, rfl, by rw [← ho_o, ← ho_v]; first | (rw [op_mov (by assumption) (by assumption), ho_32]; exact mFo.n) | (rw [op_rec (by assumption) (by assumption), ho_32]; exact mFo.n) | (rw [op_new (by assumption), ho_32]; exact mFo.n) | (rw [op_made (by assumption) (by assumption) (by assumption), ho_32]; exact mFo.n) | (rw [op_arr (by assumption) (by assumption), ho_32]; exact mFo.n) | (rw [op_obj (by assumption) (by assumption), ho_32]; exact mFo.n) | (rw [op_tur (by assumption) (by assumption), ho_32]; exact mFo.n) | (rw [op_call (by assumption), ho_32]; exact mFo.n) | (rw [op_els (by assumption) (by assumption) (by assumption), ho_32]; exact mFo.n), fun z9 => absurd z9 (by decide)⟩ dX8_does_171
                  | some z_32 =>
                    rw [ho_32] at hm_32
                    have hm_32 : r_32 = 1 ∧ (h_32, d_32) = z_32 := hm_32
                    obtain ⟨e3, e4⟩ := hm_32
                    subst e3; subst e4
                    exact m_zret (b := true) X hr hlk hw hS (Nat.le_of_ble_eq_true rfl) (Nat.le_of_ble_eq_true rfl) rfl ⟨rfl, -1, 1, (h_32, d_32), by show d_32 ≤ 8; omega, rfl, by rw [← ho_o, ← ho_v]; first | (rw [op_mov (by assumption) (by assumption), ho_32]; exact mFo.s) | (rw [op_rec (by assumption) (by assumption), ho_32]; exact mFo.s) | (rw [op_new (by assumption), ho_32]; exact mFo.s) | (rw [op_made (by assumption) (by assumption) (by assumption), ho_32]; exact mFo.s) | (rw [op_arr (by assumption) (by assumption), ho_32]; exact mFo.s) | (rw [op_obj (by assumption) (by assumption), ho_32]; exact mFo.s) | (rw [op_tur (by assumption) (by assumption), ho_32]; exact mFo.s) | (rw [op_call (by assumption), ho_32]; exact mFo.s) | (rw [op_els (by assumption) (by assumption) (by assumption), ho_32]; exact mFo.s), fun _ => ⟨by rw [← ho_o, hla]; rfl, by rw [← ho_o, ← ho_v]; first | (rw [leads_lo (n := 6) (by assumption) (by decide)]; rfl) | (rw [leads_lo (n := 11) (by assumption) (by decide)]; rfl) | (rw [leads_lo (n := 13) (by assumption) (by decide)]; rfl) | (rw [leads_lo (n := 20) (by assumption) (by decide)]; rfl) | (rw [leads_lo (n := 25) (by assumption) (by decide)]; rfl) | (rw [leads_lo (n := 28) (by assumption) (by decide)]; rfl) | (rw [show o = 33 by assumption]; rfl) | exact els_u (by assumption) (by assumption) (by assumption) rfl rfl⟩⟩ dX8_does_171
              · skip
                refine lv_aload_n hx hb dX8_does_147 rfl (lv_at hl 2 rfl) ?_
                refine lv_iload hx hb dX8_does_148 (lv_at hl 0 rfl) ?_
                refine lv_lload hx hb dX8_does_150 (lv_at hl 1 rfl) ?_
                refine m_calli (m_runV (i := nm 0 7) (ci := 6) (As := [.int o, .long v]) (rest := []) X (k_F8_usesArray Γ l L (tS (tS x 0 7 1 (-1)) 0 7 2 1) h d o v (by omega) ok) v_X8_usesArray ml_X8_54 hw hS rfl rfl rfl rfl hl.1 ⟨Nat.le_of_ble_eq_true rfl, Nat.le_of_ble_eq_true rfl⟩ (Nat.le_of_ble_eq_true rfl) ⟨Nat.le_of_ble_eq_true rfl, Nat.le_of_ble_eq_true rfl⟩ dX8_does_152) hS (fun r_33 L1 M1 H locs hp_33 hw hS => ?_)
                obtain ⟨⟨h_33, d_33⟩, hd_33, e1, e2, hm_33⟩ := hp_33
                have hd_33 : d_33 ≤ 8 := hd_33
                rw [e1, e2] at hw; clear e1 e2
                have hm_33 : mFo (f_arr o v (h, d)) r_33 (h_33, d_33) := hm_33
                cases ho_33 : f_arr o v (h, d) with
                | none =>
                  rw [ho_33] at hm_33
                  have hm_33 : r_33 = 0 := hm_33
                  subst hm_33
                  exact m_zret (b := false) X hr hlk hw hS (Nat.le_of_ble_eq_true rfl) (Nat.le_of_ble_eq_true rfl) rfl ⟨rfl, -1, 1, (h_33, d_33), by show d_33 ≤ 8; omega, rfl, by rw [← ho_o, ← ho_v]; first | (rw [op_mov (by assumption) (by assumption), ho_33]; exact mFo.n) | (rw [op_rec (by assumption) (by assumption), ho_33]; exact mFo.n) | (rw [op_new (by assumption), ho_33]; exact mFo.n) | (rw [op_made (by assumption) (by assumption) (by assumption), ho_33]; exact mFo.n) | (rw [op_arr (by assumption) (by assumption), ho_33]; exact mFo.n) | (rw [op_obj (by assumption) (by assumption), ho_33]; exact mFo.n) | (rw [op_tur (by assumption) (by assumption), ho_33]; exact mFo.n) | (rw [op_call (by assumption), ho_33]; exact mFo.n) | (rw [op_els (by assumption) (by assumption) (by assumption), ho_33]; exact mFo.n), fun z9 => absurd z9 (by decide)⟩ dX8_does_155
                | some z_33 =>
                  rw [ho_33] at hm_33
                  have hm_33 : r_33 = 1 ∧ (h_33, d_33) = z_33 := hm_33
                  obtain ⟨e3, e4⟩ := hm_33
                  subst e3; subst e4
                  exact m_zret (b := true) X hr hlk hw hS (Nat.le_of_ble_eq_true rfl) (Nat.le_of_ble_eq_true rfl) rfl ⟨rfl, -1, 1, (h_33, d_33), by show d_33 ≤ 8; omega, rfl, by rw [← ho_o, ← ho_v]; first | (rw [op_mov (by assumption) (by assumption), ho_33]; exact mFo.s) | (rw [op_rec (by assumption) (by assumption), ho_33]; exact mFo.s) | (rw [op_new (by assumption), ho_33]; exact mFo.s) | (rw [op_made (by assumption) (by assumption) (by assumption), ho_33]; exact mFo.s) | (rw [op_arr (by assumption) (by assumption), ho_33]; exact mFo.s) | (rw [op_obj (by assumption) (by assumption), ho_33]; exact mFo.s) | (rw [op_tur (by assumption) (by assumption), ho_33]; exact mFo.s) | (rw [op_call (by assumption), ho_33]; exact mFo.s) | (rw [op_els (by assumption) (by assumption) (by assumption), ho_33]; exact mFo.s), fun _ => ⟨by rw [← ho_o, hla]; rfl, by rw [← ho_o, ← ho_v]; first | (rw [leads_lo (n := 6) (by assumption) (by decide)]; rfl) | (rw [leads_lo (n := 11) (by assumption) (by decide)]; rfl) | (rw [leads_lo (n := 13) (by assumption) (by decide)]; rfl) | (rw [leads_lo (n := 20) (by assumption) (by decide)]; rfl) | (rw [leads_lo (n := 25) (by assumption) (by decide)]; rfl) | (rw [leads_lo (n := 28) (by assumption) (by decide)]; rfl) | (rw [show o = 33 by assumption]; rfl) | exact els_u (by assumption) (by assumption) (by assumption) rfl rfl⟩⟩ dX8_does_155
            · skip
              refine lv_iload hx hb dX8_does_115 (lv_at hl 0 rfl) ?_
              refine lv_bipush (v := 12) hx hb dX8_does_117 (by decide) ?_
              refine lv_icmp_ne (tgt := 132) hx hb dX8_does_119 (by decide) (fun c_34 => ?_) (fun c_34 => ?_)
              · skip
                refine lv_aload_n hx hb dX8_does_132 rfl (lv_at hl 2 rfl) ?_
                refine lv_aload_n hx hb dX8_does_133 rfl (lv_at hl 4 rfl) ?_
                refine lv_lload hx hb dX8_does_134 (lv_at hl 1 rfl) ?_
                refine m_calli (m_runV (i := nm 0 7) (ci := 6) (As := [.ref (L (nm (cm + 2) 0)), .long v]) (rest := []) X (k_F8_finishes Γ l L (tS (tS x 0 7 1 (-1)) 0 7 2 1) h d cm om v (by omega) ok hI hm hom ho40) v_X8_finishes ml_X8_50 hw hS rfl rfl rfl rfl hl.1 ⟨Nat.le_of_ble_eq_true rfl, Nat.le_of_ble_eq_true rfl⟩ (Nat.le_of_ble_eq_true rfl) ⟨Nat.le_of_ble_eq_true rfl, Nat.le_of_ble_eq_true rfl⟩ dX8_does_136) hS (fun r_35 L1 M1 H locs hp_35 hw hS => ?_)
                obtain ⟨⟨h_35, d_35⟩, hd_35, e1, e2, hm_35⟩ := hp_35
                have hd_35 : d_35 ≤ 8 := hd_35
                rw [e1, e2] at hw; clear e1 e2
                have hm_35 : mFo (p_made (x.2.1 (cm + 2) 1) (x.2.2.1 (cm + 2) 2) om (h, d) v) r_35 (h_35, d_35) := hm_35
                cases ho_35 : p_made (x.2.1 (cm + 2) 1) (x.2.2.1 (cm + 2) 2) om (h, d) v with
                | none =>
                  rw [ho_35] at hm_35
                  have hm_35 : r_35 = 0 := hm_35
                  subst hm_35
                  exact m_zret (b := false) X hr hlk hw hS (Nat.le_of_ble_eq_true rfl) (Nat.le_of_ble_eq_true rfl) rfl ⟨rfl, -1, 1, (h_35, d_35), by show d_35 ≤ 8; omega, rfl, by rw [← ho_o, ← ho_v]; first | (rw [op_mov (by assumption) (by assumption), ho_35]; exact mFo.n) | (rw [op_rec (by assumption) (by assumption), ho_35]; exact mFo.n) | (rw [op_new (by assumption), ho_35]; exact mFo.n) | (rw [op_made (by assumption) (by assumption) (by assumption), ho_35]; exact mFo.n) | (rw [op_arr (by assumption) (by assumption), ho_35]; exact mFo.n) | (rw [op_obj (by assumption) (by assumption), ho_35]; exact mFo.n) | (rw [op_tur (by assumption) (by assumption), ho_35]; exact mFo.n) | (rw [op_call (by assumption), ho_35]; exact mFo.n) | (rw [op_els (by assumption) (by assumption) (by assumption), ho_35]; exact mFo.n), fun z9 => absurd z9 (by decide)⟩ dX8_does_139
                | some z_35 =>
                  rw [ho_35] at hm_35
                  have hm_35 : r_35 = 1 ∧ (h_35, d_35) = z_35 := hm_35
                  obtain ⟨e3, e4⟩ := hm_35
                  subst e3; subst e4
                  exact m_zret (b := true) X hr hlk hw hS (Nat.le_of_ble_eq_true rfl) (Nat.le_of_ble_eq_true rfl) rfl ⟨rfl, -1, 1, (h_35, d_35), by show d_35 ≤ 8; omega, rfl, by rw [← ho_o, ← ho_v]; first | (rw [op_mov (by assumption) (by assumption), ho_35]; exact mFo.s) | (rw [op_rec (by assumption) (by assumption), ho_35]; exact mFo.s) | (rw [op_new (by assumption), ho_35]; exact mFo.s) | (rw [op_made (by assumption) (by assumption) (by assumption), ho_35]; exact mFo.s) | (rw [op_arr (by assumption) (by assumption), ho_35]; exact mFo.s) | (rw [op_obj (by assumption) (by assumption), ho_35]; exact mFo.s) | (rw [op_tur (by assumption) (by assumption), ho_35]; exact mFo.s) | (rw [op_call (by assumption), ho_35]; exact mFo.s) | (rw [op_els (by assumption) (by assumption) (by assumption), ho_35]; exact mFo.s), fun _ => ⟨by rw [← ho_o, hla]; rfl, by rw [← ho_o, ← ho_v]; first | (rw [leads_lo (n := 6) (by assumption) (by decide)]; rfl) | (rw [leads_lo (n := 11) (by assumption) (by decide)]; rfl) | (rw [leads_lo (n := 13) (by assumption) (by decide)]; rfl) | (rw [leads_lo (n := 20) (by assumption) (by decide)]; rfl) | (rw [leads_lo (n := 25) (by assumption) (by decide)]; rfl) | (rw [leads_lo (n := 28) (by assumption) (by decide)]; rfl) | (rw [show o = 33 by assumption]; rfl) | exact els_u (by assumption) (by assumption) (by assumption) rfl rfl⟩⟩ dX8_does_139
              · skip
                refine lv_aload_n hx hb dX8_does_122 rfl (lv_at hl 2 rfl) ?_
                refine lv_iload_n hx hb dX8_does_123 rfl (lv_at hl 5 rfl) ?_
                refine lv_lload hx hb dX8_does_124 (lv_at hl 1 rfl) ?_
                refine m_calli (m_runV (i := nm 0 7) (ci := 6) (As := [.int k, .long v]) (rest := []) X (k_F8_begins Γ l L (tS (tS x 0 7 1 (-1)) 0 7 2 1) h d k v (by omega) ok) v_X8_begins ml_X8_47 hw hS rfl rfl rfl rfl hl.1 ⟨Nat.le_of_ble_eq_true rfl, Nat.le_of_ble_eq_true rfl⟩ (Nat.le_of_ble_eq_true rfl) ⟨Nat.le_of_ble_eq_true rfl, Nat.le_of_ble_eq_true rfl⟩ dX8_does_126) hS (fun r_36 L1 M1 H locs hp_36 hw hS => ?_)
                obtain ⟨⟨h_36, d_36⟩, hd_36, e1, e2, hm_36⟩ := hp_36
                have hd_36 : d_36 ≤ 8 := hd_36
                rw [e1, e2] at hw; clear e1 e2
                have hm_36 : mFo (p_new (h, d) k v) r_36 (h_36, d_36) := hm_36
                cases ho_36 : p_new (h, d) k v with
                | none =>
                  rw [ho_36] at hm_36
                  have hm_36 : r_36 = 0 := hm_36
                  subst hm_36
                  refine lv_goto (tgt := 139) hx hb dX8_does_129 (by decide) ?_
                  exact m_zret (b := false) X hr hlk hw hS (Nat.le_of_ble_eq_true rfl) (Nat.le_of_ble_eq_true rfl) rfl ⟨rfl, -1, 1, (h_36, d_36), by show d_36 ≤ 8; omega, rfl, by rw [← ho_o, ← ho_v]; first | (rw [op_mov (by assumption) (by assumption), ho_36]; exact mFo.n) | (rw [op_rec (by assumption) (by assumption), ho_36]; exact mFo.n) | (rw [op_new (by assumption), ho_36]; exact mFo.n) | (rw [op_made (by assumption) (by assumption) (by assumption), ho_36]; exact mFo.n) | (rw [op_arr (by assumption) (by assumption), ho_36]; exact mFo.n) | (rw [op_obj (by assumption) (by assumption), ho_36]; exact mFo.n) | (rw [op_tur (by assumption) (by assumption), ho_36]; exact mFo.n) | (rw [op_call (by assumption), ho_36]; exact mFo.n) | (rw [op_els (by assumption) (by assumption) (by assumption), ho_36]; exact mFo.n), fun z9 => absurd z9 (by decide)⟩ dX8_does_139
                | some z_36 =>
                  rw [ho_36] at hm_36
                  have hm_36 : r_36 = 1 ∧ (h_36, d_36) = z_36 := hm_36
                  obtain ⟨e3, e4⟩ := hm_36
                  subst e3; subst e4
                  refine lv_goto (tgt := 139) hx hb dX8_does_129 (by decide) ?_
                  exact m_zret (b := true) X hr hlk hw hS (Nat.le_of_ble_eq_true rfl) (Nat.le_of_ble_eq_true rfl) rfl ⟨rfl, -1, 1, (h_36, d_36), by show d_36 ≤ 8; omega, rfl, by rw [← ho_o, ← ho_v]; first | (rw [op_mov (by assumption) (by assumption), ho_36]; exact mFo.s) | (rw [op_rec (by assumption) (by assumption), ho_36]; exact mFo.s) | (rw [op_new (by assumption), ho_36]; exact mFo.s) | (rw [op_made (by assumption) (by assumption) (by assumption), ho_36]; exact mFo.s) | (rw [op_arr (by assumption) (by assumption), ho_36]; exact mFo.s) | (rw [op_obj (by assumption) (by assumption), ho_36]; exact mFo.s) | (rw [op_tur (by assumption) (by assumption), ho_36]; exact mFo.s) | (rw [op_call (by assumption), ho_36]; exact mFo.s) | (rw [op_els (by assumption) (by assumption) (by assumption), ho_36]; exact mFo.s), fun _ => ⟨by rw [← ho_o, hla]; rfl, by rw [← ho_o, ← ho_v]; first | (rw [leads_lo (n := 6) (by assumption) (by decide)]; rfl) | (rw [leads_lo (n := 11) (by assumption) (by decide)]; rfl) | (rw [leads_lo (n := 13) (by assumption) (by decide)]; rfl) | (rw [leads_lo (n := 20) (by assumption) (by decide)]; rfl) | (rw [leads_lo (n := 25) (by assumption) (by decide)]; rfl) | (rw [leads_lo (n := 28) (by assumption) (by decide)]; rfl) | (rw [show o = 33 by assumption]; rfl) | exact els_u (by assumption) (by assumption) (by assumption) rfl rfl⟩⟩ dX8_does_139
          · skip
            refine lv_aload_n hx hb dX8_does_99 rfl (lv_at hl 2 rfl) ?_
            refine lv_iload hx hb dX8_does_100 (lv_at hl 0 rfl) ?_
            refine lv_lload hx hb dX8_does_102 (lv_at hl 1 rfl) ?_
            refine m_calli (m_runV (i := nm 0 7) (ci := 6) (As := [.int o, .long v]) (rest := []) X (k_F8_reckons Γ l L (tS (tS x 0 7 1 (-1)) 0 7 2 1) h d o v (by omega) ok) v_X8_reckons ml_X8_44 hw hS rfl rfl rfl rfl hl.1 ⟨Nat.le_of_ble_eq_true rfl, Nat.le_of_ble_eq_true rfl⟩ (Nat.le_of_ble_eq_true rfl) ⟨Nat.le_of_ble_eq_true rfl, Nat.le_of_ble_eq_true rfl⟩ dX8_does_104) hS (fun r_37 L1 M1 H locs hp_37 hw hS => ?_)
            obtain ⟨⟨h_37, d_37⟩, hd_37, e1, e2, hm_37⟩ := hp_37
            have hd_37 : d_37 ≤ 8 := hd_37
            rw [e1, e2] at hw; clear e1 e2
            have hm_37 : mFo (f_rec o v (h, d)) r_37 (h_37, d_37) := hm_37
            cases ho_37 : f_rec o v (h, d) with
            | none =>
              rw [ho_37] at hm_37
              have hm_37 : r_37 = 0 := hm_37
              subst hm_37
              exact m_zret (b := false) X hr hlk hw hS (Nat.le_of_ble_eq_true rfl) (Nat.le_of_ble_eq_true rfl) rfl ⟨rfl, -1, 1, (h_37, d_37), by show d_37 ≤ 8; omega, rfl, by rw [← ho_o, ← ho_v]; first | (rw [op_mov (by assumption) (by assumption), ho_37]; exact mFo.n) | (rw [op_rec (by assumption) (by assumption), ho_37]; exact mFo.n) | (rw [op_new (by assumption), ho_37]; exact mFo.n) | (rw [op_made (by assumption) (by assumption) (by assumption), ho_37]; exact mFo.n) | (rw [op_arr (by assumption) (by assumption), ho_37]; exact mFo.n) | (rw [op_obj (by assumption) (by assumption), ho_37]; exact mFo.n) | (rw [op_tur (by assumption) (by assumption), ho_37]; exact mFo.n) | (rw [op_call (by assumption), ho_37]; exact mFo.n) | (rw [op_els (by assumption) (by assumption) (by assumption), ho_37]; exact mFo.n), fun z9 => absurd z9 (by decide)⟩ dX8_does_107
            | some z_37 =>
              rw [ho_37] at hm_37
              have hm_37 : r_37 = 1 ∧ (h_37, d_37) = z_37 := hm_37
              obtain ⟨e3, e4⟩ := hm_37
              subst e3; subst e4
              exact m_zret (b := true) X hr hlk hw hS (Nat.le_of_ble_eq_true rfl) (Nat.le_of_ble_eq_true rfl) rfl ⟨rfl, -1, 1, (h_37, d_37), by show d_37 ≤ 8; omega, rfl, by rw [← ho_o, ← ho_v]; first | (rw [op_mov (by assumption) (by assumption), ho_37]; exact mFo.s) | (rw [op_rec (by assumption) (by assumption), ho_37]; exact mFo.s) | (rw [op_new (by assumption), ho_37]; exact mFo.s) | (rw [op_made (by assumption) (by assumption) (by assumption), ho_37]; exact mFo.s) | (rw [op_arr (by assumption) (by assumption), ho_37]; exact mFo.s) | (rw [op_obj (by assumption) (by assumption), ho_37]; exact mFo.s) | (rw [op_tur (by assumption) (by assumption), ho_37]; exact mFo.s) | (rw [op_call (by assumption), ho_37]; exact mFo.s) | (rw [op_els (by assumption) (by assumption) (by assumption), ho_37]; exact mFo.s), fun _ => ⟨by rw [← ho_o, hla]; rfl, by rw [← ho_o, ← ho_v]; first | (rw [leads_lo (n := 6) (by assumption) (by decide)]; rfl) | (rw [leads_lo (n := 11) (by assumption) (by decide)]; rfl) | (rw [leads_lo (n := 13) (by assumption) (by decide)]; rfl) | (rw [leads_lo (n := 20) (by assumption) (by decide)]; rfl) | (rw [leads_lo (n := 25) (by assumption) (by decide)]; rfl) | (rw [leads_lo (n := 28) (by assumption) (by decide)]; rfl) | (rw [show o = 33 by assumption]; rfl) | exact els_u (by assumption) (by assumption) (by assumption) rfl rfl⟩⟩ dX8_does_107
        · skip
          refine lv_aload_n hx hb dX8_does_83 rfl (lv_at hl 2 rfl) ?_
          refine lv_iload hx hb dX8_does_84 (lv_at hl 0 rfl) ?_
          refine lv_lload hx hb dX8_does_86 (lv_at hl 1 rfl) ?_
          refine m_calli (m_runV (i := nm 0 7) (ci := 6) (As := [.int o, .long v]) (rest := []) X (k_F8_moves Γ l L (tS (tS x 0 7 1 (-1)) 0 7 2 1) h d o v (by omega) ok) v_X8_moves ml_X8_40 hw hS rfl rfl rfl rfl hl.1 ⟨Nat.le_of_ble_eq_true rfl, Nat.le_of_ble_eq_true rfl⟩ (Nat.le_of_ble_eq_true rfl) ⟨Nat.le_of_ble_eq_true rfl, Nat.le_of_ble_eq_true rfl⟩ dX8_does_88) hS (fun r_38 L1 M1 H locs hp_38 hw hS => ?_)
          obtain ⟨⟨h_38, d_38⟩, hd_38, e1, e2, hm_38⟩ := hp_38
          have hd_38 : d_38 ≤ 8 := hd_38
          rw [e1, e2] at hw; clear e1 e2
          have hm_38 : mFo (f_mov o v (h, d)) r_38 (h_38, d_38) := hm_38
          cases ho_38 : f_mov o v (h, d) with
          | none =>
            rw [ho_38] at hm_38
            have hm_38 : r_38 = 0 := hm_38
            subst hm_38
            exact m_zret (b := false) X hr hlk hw hS (Nat.le_of_ble_eq_true rfl) (Nat.le_of_ble_eq_true rfl) rfl ⟨rfl, -1, 1, (h_38, d_38), by show d_38 ≤ 8; omega, rfl, by rw [← ho_o, ← ho_v]; first | (rw [op_mov (by assumption) (by assumption), ho_38]; exact mFo.n) | (rw [op_rec (by assumption) (by assumption), ho_38]; exact mFo.n) | (rw [op_new (by assumption), ho_38]; exact mFo.n) | (rw [op_made (by assumption) (by assumption) (by assumption), ho_38]; exact mFo.n) | (rw [op_arr (by assumption) (by assumption), ho_38]; exact mFo.n) | (rw [op_obj (by assumption) (by assumption), ho_38]; exact mFo.n) | (rw [op_tur (by assumption) (by assumption), ho_38]; exact mFo.n) | (rw [op_call (by assumption), ho_38]; exact mFo.n) | (rw [op_els (by assumption) (by assumption) (by assumption), ho_38]; exact mFo.n), fun z9 => absurd z9 (by decide)⟩ dX8_does_91
          | some z_38 =>
            rw [ho_38] at hm_38
            have hm_38 : r_38 = 1 ∧ (h_38, d_38) = z_38 := hm_38
            obtain ⟨e3, e4⟩ := hm_38
            subst e3; subst e4
            exact m_zret (b := true) X hr hlk hw hS (Nat.le_of_ble_eq_true rfl) (Nat.le_of_ble_eq_true rfl) rfl ⟨rfl, -1, 1, (h_38, d_38), by show d_38 ≤ 8; omega, rfl, by rw [← ho_o, ← ho_v]; first | (rw [op_mov (by assumption) (by assumption), ho_38]; exact mFo.s) | (rw [op_rec (by assumption) (by assumption), ho_38]; exact mFo.s) | (rw [op_new (by assumption), ho_38]; exact mFo.s) | (rw [op_made (by assumption) (by assumption) (by assumption), ho_38]; exact mFo.s) | (rw [op_arr (by assumption) (by assumption), ho_38]; exact mFo.s) | (rw [op_obj (by assumption) (by assumption), ho_38]; exact mFo.s) | (rw [op_tur (by assumption) (by assumption), ho_38]; exact mFo.s) | (rw [op_call (by assumption), ho_38]; exact mFo.s) | (rw [op_els (by assumption) (by assumption) (by assumption), ho_38]; exact mFo.s), fun _ => ⟨by rw [← ho_o, hla]; rfl, by rw [← ho_o, ← ho_v]; first | (rw [leads_lo (n := 6) (by assumption) (by decide)]; rfl) | (rw [leads_lo (n := 11) (by assumption) (by decide)]; rfl) | (rw [leads_lo (n := 13) (by assumption) (by decide)]; rfl) | (rw [leads_lo (n := 20) (by assumption) (by decide)]; rfl) | (rw [leads_lo (n := 25) (by assumption) (by decide)]; rfl) | (rw [leads_lo (n := 28) (by assumption) (by decide)]; rfl) | (rw [show o = 33 by assumption]; rfl) | exact els_u (by assumption) (by assumption) (by assumption) rfl rfl⟩⟩ dX8_does_91
      · skip
        refine lv_iconst (v := 0) hx hb dX8_does_74 (by decide) ?_
        exact m_zret (b := false) X hr hlk hw hS (Nat.le_of_ble_eq_true rfl) (Nat.le_of_ble_eq_true rfl) rfl ⟨rfl, -1, 1, (h, d), by show d ≤ 8; omega, rfl, by rw [← ho_o, ← ho_v, op_bad (by first | exact Or.inl (by assumption) | exact Or.inr (by assumption))]; exact mFo.n, fun z9 => absurd z9 (by decide)⟩ dX8_does_75
  refine lv_aload_n hx hb dX8_does_0 rfl (lv_at hl 2 rfl) ?_
  refine lv_iload_n hx hb dX8_does_1 rfl (lv_at hl 3 rfl) ?_
  refine lv_i2l (v := k.toInt64) hx hb dX8_does_2 rfl ?_
  refine m_calli (m_runV (i := nm (cm + 2) 0) (ci := 0) (As := [.long k.toInt64]) (rest := []) X (k_X0_hasInstruction Γ l L (sP x 0 8 (h, d)) cm k.toInt64 hm) v_X0_hasInstruction ml_X8_16 hw hS (c_cell hm 0 _ _ _) rfl rfl rfl hl.1 ⟨Nat.le_of_ble_eq_true rfl, Nat.le_of_ble_eq_true rfl⟩ (Nat.le_of_ble_eq_true rfl) ⟨Nat.le_of_ble_eq_true rfl, Nat.le_of_ble_eq_true rfl⟩ dX8_does_3) hS (fun r_39 L1 M1 H locs hp_39 hw hS => ?_)
  obtain ⟨rfl, e1, e2⟩ := hp_39
  rw [e1, e2] at hw; clear e1 e2
  refine lv_if_ne (tgt := 11) hx hb dX8_does_6 (by decide) (fun c_40 => ?_) (fun c_40 => ?_)
  · skip
    have c_40 := bI_t c_40
    refine lv_aload_n hx hb dX8_does_11 rfl (lv_at hl 2 rfl) ?_
    refine s_get (a := cm + 2) (b := 0) (ci := 0) X hw (c_cell hm 0 _ _ _) rfl gX0 2 (by decide) fl_X8_22 rfl rfl dX8_does_12 ?_
    refine lv_iload_n hx hb dX8_does_15 rfl (lv_at hl 3 rfl) ?_
    refine s_iald (n := 40) (k := kn) X hw (c_cell hm 1 _ _ _) ek (by omega) (by decide) dX8_does_16 ?_
    refine lv_istore (lv' := [(4, .int ((sP x 0 8 (h, d)).2.1 (cm + 2) 1 kn)), (0, .ref (L (nm 0 7))), (1, .ref (L (nm 0 1))), (2, .ref (L (nm (cm + 2) 0))), (3, .int k)]) hx hb dX8_does_17 hl (by decide) rfl (fun ls hl => ?_)
    refine lv_aload_n hx hb dX8_does_19 rfl (lv_at hl 3 rfl) ?_
    refine s_get (a := cm + 2) (b := 0) (ci := 0) X hw (c_cell hm 0 _ _ _) rfl gX0 3 (by decide) fl_X8_26 rfl rfl dX8_does_20 ?_
    refine lv_iload_n hx hb dX8_does_23 rfl (lv_at hl 4 rfl) ?_
    refine s_lald (n := 40) (k := kn) X hw (c_cell hm 2 _ _ _) ek (by omega) (by decide) dX8_does_24 ?_
    refine lv_lstore (lv' := [(5, .long ((sP x 0 8 (h, d)).2.2.1 (cm + 2) 2 kn)), (4, .int ((sP x 0 8 (h, d)).2.1 (cm + 2) 1 kn)), (0, .ref (L (nm 0 7))), (1, .ref (L (nm 0 1))), (2, .ref (L (nm (cm + 2) 0))), (3, .int k)]) hx hb dX8_does_25 hl (by decide) rfl (fun ls hl => ?_)
    refine lv_aload_n hx hb dX8_does_27 rfl (lv_at hl 2 rfl) ?_
    refine lv_iconst (v := (-1)) hx hb dX8_does_28 (by decide) ?_
    refine s_put (a := 0) (b := 7) (v := (-1)) (ci := 6) (ty := tyX8 1) X hw hS 1 rfl rfl rfl gX8 tyX8 tyX8_ok nmX8 (by decide) fl_X8_30 rfl rfl (tyX8_ok 1 (by decide)) rfl rfl (show 1 < 3 by decide) dX8_does_29 (fun H locs hw hS => ?_)
    rw [sP_tSo (by first | decide | omega)] at hw
    have hI := hI.free (b := 7) (k := 1) (v := (-1)) (by decide)
    refine lv_aload_n hx hb dX8_does_32 rfl (lv_at hl 2 rfl) ?_
    refine lv_iload hx hb dX8_does_33 (lv_at hl 1 rfl) ?_
    refine lv_bipush (v := 29) hx hb dX8_does_35 (by decide) ?_
    refine lv_icmp_eq (tgt := 58) hx hb dX8_does_37 (by decide) (fun c_41 => ?_) (fun c_41 => ?_)
    · skip
      refine lv_iconst (v := 0) hx hb dX8_does_58 (by decide) ?_
      refine s_put (a := 0) (b := 7) (v := 0) (ci := 6) (ty := tyX8 2) X hw hS 2 rfl rfl rfl gX8 tyX8 tyX8_ok nmX8 (by decide) fl_X8_36 rfl rfl (tyX8_ok 2 (by decide)) rfl rfl (show 2 < 3 by decide) dX8_does_59 (fun H locs hw hS => ?_)
      rw [sP_tSo (by first | decide | omega)] at hw
      have hI := hI.free (b := 7) (k := 2) (v := 0) (by decide)
      exact K62_0 ((sP x 0 8 (h, d)).2.1 (cm + 2) 1 kn) ((sP x 0 8 (h, d)).2.2.1 (cm + 2) 2 kn) _ _ ls (show (sP x 0 8 (h, d)).2.1 (cm + 2) 1 kn = x.2.1 (cm + 2) 1 kn from sP_rdV (by omega)) rfl (last_t (by first | exact Or.inl (by assumption) | exact Or.inr (Or.inl (by assumption)) | exact Or.inr (Or.inr (by assumption)))) hw hS (lv_sub hl [1, 0, 2, 3, 4, 5] rfl)
    · skip
      refine lv_iload hx hb dX8_does_40 (lv_at hl 1 rfl) ?_
      refine lv_bipush (v := 32) hx hb dX8_does_42 (by decide) ?_
      refine lv_icmp_eq (tgt := 58) hx hb dX8_does_44 (by decide) (fun c_42 => ?_) (fun c_42 => ?_)
      · skip
        refine lv_iconst (v := 0) hx hb dX8_does_58 (by decide) ?_
        refine s_put (a := 0) (b := 7) (v := 0) (ci := 6) (ty := tyX8 2) X hw hS 2 rfl rfl rfl gX8 tyX8 tyX8_ok nmX8 (by decide) fl_X8_36 rfl rfl (tyX8_ok 2 (by decide)) rfl rfl (show 2 < 3 by decide) dX8_does_59 (fun H locs hw hS => ?_)
        rw [sP_tSo (by first | decide | omega)] at hw
        have hI := hI.free (b := 7) (k := 2) (v := 0) (by decide)
        exact K62_0 ((sP x 0 8 (h, d)).2.1 (cm + 2) 1 kn) ((sP x 0 8 (h, d)).2.2.1 (cm + 2) 2 kn) _ _ ls (show (sP x 0 8 (h, d)).2.1 (cm + 2) 1 kn = x.2.1 (cm + 2) 1 kn from sP_rdV (by omega)) rfl (last_t (by first | exact Or.inl (by assumption) | exact Or.inr (Or.inl (by assumption)) | exact Or.inr (Or.inr (by assumption)))) hw hS (lv_sub hl [1, 0, 2, 3, 4, 5] rfl)
      · skip
        refine lv_iload hx hb dX8_does_47 (lv_at hl 1 rfl) ?_
        refine lv_bipush (v := 34) hx hb dX8_does_49 (by decide) ?_
        refine lv_icmp_eq (tgt := 58) hx hb dX8_does_51 (by decide) (fun c_43 => ?_) (fun c_43 => ?_)
        · skip
          refine lv_iconst (v := 0) hx hb dX8_does_58 (by decide) ?_
          refine s_put (a := 0) (b := 7) (v := 0) (ci := 6) (ty := tyX8 2) X hw hS 2 rfl rfl rfl gX8 tyX8 tyX8_ok nmX8 (by decide) fl_X8_36 rfl rfl (tyX8_ok 2 (by decide)) rfl rfl (show 2 < 3 by decide) dX8_does_59 (fun H locs hw hS => ?_)
          rw [sP_tSo (by first | decide | omega)] at hw
          have hI := hI.free (b := 7) (k := 2) (v := 0) (by decide)
          exact K62_0 ((sP x 0 8 (h, d)).2.1 (cm + 2) 1 kn) ((sP x 0 8 (h, d)).2.2.1 (cm + 2) 2 kn) _ _ ls (show (sP x 0 8 (h, d)).2.1 (cm + 2) 1 kn = x.2.1 (cm + 2) 1 kn from sP_rdV (by omega)) rfl (last_t (by first | exact Or.inl (by assumption) | exact Or.inr (Or.inl (by assumption)) | exact Or.inr (Or.inr (by assumption)))) hw hS (lv_sub hl [1, 0, 2, 3, 4, 5] rfl)
        · skip
          refine lv_iconst (v := 1) hx hb dX8_does_54 (by decide) ?_
          refine lv_goto (tgt := 59) hx hb dX8_does_55 (by decide) ?_
          refine s_put (a := 0) (b := 7) (v := 1) (ci := 6) (ty := tyX8 2) X hw hS 2 rfl rfl rfl gX8 tyX8 tyX8_ok nmX8 (by decide) fl_X8_36 rfl rfl (tyX8_ok 2 (by decide)) rfl rfl (show 2 < 3 by decide) dX8_does_59 (fun H locs hw hS => ?_)
          rw [sP_tSo (by first | decide | omega)] at hw
          have hI := hI.free (b := 7) (k := 2) (v := 1) (by decide)
          exact K62_1 ((sP x 0 8 (h, d)).2.1 (cm + 2) 1 kn) ((sP x 0 8 (h, d)).2.2.1 (cm + 2) 2 kn) _ _ ls (show (sP x 0 8 (h, d)).2.1 (cm + 2) 1 kn = x.2.1 (cm + 2) 1 kn from sP_rdV (by omega)) rfl (last_f (by assumption) (by assumption) (by assumption)) hw hS (lv_sub hl [1, 0, 2, 3, 4, 5] rfl)
  · skip
    have c_40 := bI_f c_40
    refine lv_iconst (v := 0) hx hb dX8_does_9 (by decide) ?_
    exact absurd (show c_hasI (sP x 0 8 (h, d)) cm k.toInt64 = false by assumption) (by rw [hasI_x, (hasI_iff hom0 ho40).mpr (by rw [i64_toInt, ek, nI_toInt (by omega)]; omega)]; decide)
