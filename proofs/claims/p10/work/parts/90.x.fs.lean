/-! THE CLASS'S STEP, exactly -/
def f_sto (kn : Nat) (q : PL) : Option PL := if p_one q 0 = true then some (p_local q.1 kn (q.1 (8 + (q.2 - 1))), q.2 - 1) else none
def f_stl (kn : Nat) (q : PL) : Option PL := if kn < 7 then (p_popL q).bind (fun z => some (upd (p_local (p_local z.1 kn 0) (kn + 1) 3) kn 2, z.2)) else none
def f_mov (o : Int32) (v : Int64) (q : PL) : Option PL := if o = 0 then p_push q 1 else if o = 1 then p_pushL q else if o = 2 then p_push q 4 else if o = 3 then p_3 v q else if o = 4 then p_4 v q else if o = 5 then p_5 v q else p_6 v q
def f_rec (o : Int32) (v : Int64) (q : PL) : Option PL := if o = 7 then p_7 v q else if o = 8 then p_8 v q else if o = 9 then p_9 q else if o = 10 then p_10 q else p_11 q
def f_tak (k : Int32) (q : PL) : Option PL := if k = 4 then p_push q 4 else if k_row k = true then p_push q (k - 20 + 10) else none
def f_arr (o : Int32) (v : Int64) (q : PL) : Option PL := if o = 14 then p_14 q else if o = 15 then p_15 v q else if o = 16 then p_16 q else if o = 17 then p_17 q else if o = 18 then p_18 q else if o = 19 then p_19 q else p_20 q
def f_obj (o : Int32) (v : Int64) (q : PL) : Option PL := if o = 21 ∨ o = 22 then p_21 o v q else if o = 24 then p_24 q else p_23 q
def f_tur (o : Int32) (q : PL) : Option PL := if o = 26 then p_26 q else if o = 27 then p_27 q else p_28 q
theorem rin_t {v a b : Int64} (h1 : ¬ v < a) (h2 : ¬ b < v) : r_isIn v a b = true := by
  unfold r_isIn
  rw [decide_eq_false h1, decide_eq_false h2]; rfl
theorem rin_f1 {v a b : Int64} (h : v < a) : ¬ r_isIn v a b = true := by
  unfold r_isIn
  rw [decide_eq_true h]
  simp
theorem rin_f2 {v a b : Int64} (h : b < v) : ¬ r_isIn v a b = true := by
  unfold r_isIn
  rw [decide_eq_true h]
  cases (decide (v < a)) <;> decide
theorem one_n0 {h : Nat → Int32} {d : Nat} (c : p_one (h, d) 0 = true) : ¬ h (7 + d) = 0 := by
  unfold p_one at c
  simp only [Bool.and_eq_true, decide_eq_true_eq] at c
  intro z
  have c2 : r_one (h (7 + d)) = true := c.2
  rw [z] at c2
  exact absurd c2 (by decide)
theorem row_n0 {h : Nat → Int32} {d : Nat} (c : ¬ d = 0 ∧ p_isRowN (h (7 + d)) = true) : ¬ h (7 + d) = 0 := by
  intro z
  have c2 := c.2
  rw [z] at c2
  exact absurd c2 (by decide)
theorem ne_of_out {o : Int32} {a b n : Int} (c : o.toInt < a ∨ b < o.toInt) {m : Int32} (hm : m.toInt = n) (h : a ≤ n ∧ n ≤ b) : ¬ o = m := by
  rintro rfl
  omega
theorem f_rec_d {o : Int32} {v : Int64} {q : PL} (c : o.toInt < 7 ∨ 10 < o.toInt) : f_rec o v q = p_11 q := by
  unfold f_rec
  rw [if_neg (ne_of_out c (m := 7) (n := 7) (by decide) (by decide)), if_neg (ne_of_out c (m := 8) (n := 8) (by decide) (by decide)), if_neg (ne_of_out c (m := 9) (n := 9) (by decide) (by decide)), if_neg (ne_of_out c (m := 10) (n := 10) (by decide) (by decide))]
theorem f_arr_d {o : Int32} {v : Int64} {q : PL} (c : o.toInt < 14 ∨ 19 < o.toInt) : f_arr o v q = p_20 q := by
  unfold f_arr
  rw [if_neg (ne_of_out c (m := 14) (n := 14) (by decide) (by decide)), if_neg (ne_of_out c (m := 15) (n := 15) (by decide) (by decide)), if_neg (ne_of_out c (m := 16) (n := 16) (by decide) (by decide)), if_neg (ne_of_out c (m := 17) (n := 17) (by decide) (by decide)), if_neg (ne_of_out c (m := 18) (n := 18) (by decide) (by decide)), if_neg (ne_of_out c (m := 19) (n := 19) (by decide) (by decide))]
theorem ix_64 {n : Nat} (h : n < 2 ^ 31) : p_ix (nI n).toInt64 = n := by
  unfold p_ix
  have e : ((nI n).toInt64).toInt32 = nI n := by simp
  rw [e, nI_clamp h]
theorem rin_8 {n : Nat} (h : n < 8) : r_isIn (nI n).toInt64 0 7 = true := by
  rw [in_iff, nI_toInt (by omega)]
  have y0 : (0 : Int64).toInt = 0 := by decide
  have y7 : (7 : Int64).toInt = 7 := by decide
  rw [y0, y7]; omega
theorem rin_7 {n : Nat} (h : n < 8) : r_isIn (nI n).toInt64 0 6 = true ↔ n < 7 := by
  rw [in_iff, nI_toInt (by omega)]
  have y0 : (0 : Int64).toInt = 0 := by decide
  have y6 : (6 : Int64).toInt = 6 := by decide
  rw [y0, y6]; omega
theorem p3_eq {n : Nat} {q : PL} (h : n < 8) : p_3 (nI n).toInt64 q = if k_one (q.1 n) = true then p_push q (q.1 n) else none := by
  unfold p_3
  rw [ix_64 (by omega), k_one_eq]
  by_cases c : r_one (q.1 n) = true
  · rw [if_pos ⟨rin_8 h, c⟩, if_pos c]
  · rw [if_neg (fun z => c z.2), if_neg c]
theorem p4_eq {n : Nat} {q : PL} (h : n < 8) : p_4 (nI n).toInt64 q = f_sto n q := by
  unfold p_4 f_sto
  rw [ix_64 (by omega)]
  by_cases c : p_one q 0 = true
  · rw [if_pos ⟨rin_8 h, c⟩, if_pos c]
  · rw [if_neg (fun z => c z.2), if_neg c]
theorem p5_eq {n : Nat} {q : PL} (h : n < 8) : p_5 (nI n).toInt64 q = if n < 7 ∧ q.1 n = 2 ∧ q.1 (n + 1) = 3 then p_pushL q else none := by
  unfold p_5
  rw [ix_64 (by omega)]
  by_cases c : n < 7 ∧ q.1 n = 2 ∧ q.1 (n + 1) = 3
  · rw [if_pos c, if_pos ⟨(rin_7 h).mpr c.1, c.2⟩]
  · rw [if_neg c, if_neg (fun z => c ⟨(rin_7 h).mp z.1, z.2⟩)]
theorem p6_eq {n : Nat} {q : PL} (h : n < 8) : p_6 (nI n).toInt64 q = f_stl n q := by
  unfold p_6 f_stl
  rw [ix_64 (by omega)]
  by_cases c : n < 7
  · rw [if_pos c, if_pos ((rin_7 h).mpr c)]
  · rw [if_neg c, if_neg (fun z => c ((rin_7 h).mp z))]
theorem f_mov_o {o : Int32} {v : Int64} {q : PL} (c : o.toInt < 0 ∨ 2 < o.toInt) (hv : ¬ r_isIn v 0 7 = true) : f_mov o v q = none := by
  have h6 : ¬ r_isIn v 0 6 = true := fun z => hv (by
    rw [r_isIn_iff] at z ⊢
    have y6 : (6 : Int64).toInt = 6 := by decide
    have y7 : (7 : Int64).toInt = 7 := by decide
    omega)
  unfold f_mov
  rw [if_neg (ne_of_out c (m := 0) (n := 0) (by decide) (by decide)), if_neg (ne_of_out c (m := 1) (n := 1) (by decide) (by decide)), if_neg (ne_of_out c (m := 2) (n := 2) (by decide) (by decide))]
  have a3 : p_3 v q = none := if_neg (fun z => hv z.1)
  have a4 : p_4 v q = none := if_neg (fun z => hv z.1)
  have a5 : p_5 v q = none := if_neg (fun z => h6 z.1)
  have a6 : p_6 v q = none := if_neg h6
  rw [a3, a4, a5, a6]
  by_cases c1 : o = 3
  · rw [if_pos c1]
  · rw [if_neg c1]
    by_cases c2 : o = 4
    · rw [if_pos c2]
    · rw [if_neg c2]
      by_cases c3 : o = 5
      · rw [if_pos c3]
      · rw [if_neg c3]
theorem f_mov_6 {o : Int32} {v : Int64} {q : PL} (c : o.toInt < 0 ∨ 2 < o.toInt) (c2 : o.toInt < 3 ∨ 5 < o.toInt) : f_mov o v q = p_6 v q := by
  unfold f_mov
  rw [if_neg (ne_of_out c (m := 0) (n := 0) (by decide) (by decide)), if_neg (ne_of_out c (m := 1) (n := 1) (by decide) (by decide)), if_neg (ne_of_out c (m := 2) (n := 2) (by decide) (by decide)), if_neg (ne_of_out c2 (m := 3) (n := 3) (by decide) (by decide)), if_neg (ne_of_out c2 (m := 4) (n := 4) (by decide) (by decide)), if_neg (ne_of_out c2 (m := 5) (n := 5) (by decide) (by decide))]
theorem goes5 : ∀ k ∈ kList, r_goes k 5 = true → k = 5 ∨ k = 4 := by decide +kernel
theorem goes5b : r_goes 5 5 = true := by decide
theorem p16_a {h h1 : Nat → Int32} {d d1 : Nat} (ok : okP (h, d)) (e : p_pop (h, d) 5 = some (h1, d1)) : p_16 (h, d) = p_push (h1, d1) 1 := by
  unfold p_pop at e
  by_cases z : d = 0
  · rw [if_pos z] at e; cases e
  · rw [if_neg z] at e
    by_cases c : r_goes (h (7 + d)) 5 = true
    · have e : (if r_goes (h (7 + d)) 5 = true then some (h, d - 1) else none) = some (h1, d1) := e
      rw [if_pos c] at e
      cases e
      have et : p_top (h, d) = h (7 + d) := if_pos (show 0 < d by omega)
      unfold p_16
      rw [et]
      have hk : h (7 + d) = 5 ∨ h (7 + d) = 4 := goes5 _ (kind_in (ok.1 (7 + d) (show 7 + d < 8 + d by omega))) c
      have hk2 : h (7 + d) = 5 ∨ p_isRowN (h (7 + d)) = true := hk.imp id (fun w => by rw [w]; decide)
      rw [if_pos hk2]
      rfl
    · have e : (if r_goes (h (7 + d)) 5 = true then some (h, d - 1) else none) = some (h1, d1) := e
      rw [if_neg c] at e; cases e
theorem p16_b {h : Nat → Int32} {d : Nat} (po : ¬ d = 0 ∧ p_isRowN (h (7 + d)) = true) : p_16 (h, d) = p_push (h, d - 1) 1 := by
  have et : p_top (h, d) = h (7 + d) := if_pos (show 0 < d by omega)
  unfold p_16
  rw [et, if_pos (Or.inr po.2)]
  rfl
theorem p16_c {h : Nat → Int32} {d : Nat} (e : p_pop (h, d) 5 = none) (po : ¬ (¬ d = 0 ∧ p_isRowN (h (7 + d)) = true)) : p_16 (h, d) = none := by
  unfold p_16
  by_cases z : d = 0
  · have et : p_top (h, d) = 0 := if_neg (show ¬ 0 < d by omega)
    rw [et, if_neg (by decide)]
  · have et : p_top (h, d) = h (7 + d) := if_pos (show 0 < d by omega)
    rw [et, if_neg]
    rintro (w | w)
    · have e : (if d = 0 then none else if r_goes (h (7 + d)) 5 = true then some (h, d - 1) else none) = none := e
      rw [if_neg z, w, if_pos goes5b] at e
      cases e
    · exact po ⟨z, w⟩
theorem tak_y {k : Int32} {q : PL} (h : p_isRowN k = true) : f_tak k q = p_push q (if k = 4 then 4 else 10 + k - 20) := by
  unfold f_tak
  by_cases c : k = 4
  · rw [if_pos c, if_pos c]
  · unfold p_isRowN at h
    rw [decide_eq_false c, Bool.or_false] at h
    rw [if_neg c, if_neg c, k_row_eq, if_pos h]
    congr 1
    unfold r_isRow at h
    obtain ⟨t, h1, h2, -, rfl⟩ := isIn_nat (l := 21) (h := 25) (by decide) (by decide) h
    rcases (show t = 21 ∨ t = 22 ∨ t = 23 ∨ t = 24 ∨ t = 25 by omega) with rfl | rfl | rfl | rfl | rfl <;> decide
theorem tak_n {q : PL} : f_tak 0 q = none := rfl
theorem kd_tak {k : Int32} (h : k_row k = true) : r_isKind (k - 20 + 10) = true := by
  rw [k_row_eq] at h
  unfold r_isRow at h
  obtain ⟨t, h1, h2, -, rfl⟩ := isIn_nat (l := 21) (h := 25) (by decide) (by decide) h
  rcases (show t = 21 ∨ t = 22 ∨ t = 23 ∨ t = 24 ∨ t = 25 by omega) with rfl | rfl | rfl | rfl | rfl <;> decide
theorem dup_eq {h : Nat → Int32} {d : Nat} {z : PL} (hd : 0 < d) (hd8 : d ≤ 8) (e : p_push (h, d - 1) (h (7 + d)) = some z) : z = (h, d) := by
  unfold p_push at e
  have e : (if d - 1 = 8 then none else some (upd h (8 + (d - 1)) (h (7 + d)), d - 1 + 1)) = some z := e
  rw [if_neg (by omega), show 8 + (d - 1) = 7 + d by omega, show d - 1 + 1 = d by omega, upd_id] at e
  cases e
  rfl
theorem push_s {h : Nat → Int32} {d : Nat} {k : Int32} (hd : d < 8) : p_push (h, d) k = some (upd h (8 + d) k, d + 1) := if_neg (show ¬ d = 8 by omega)
theorem swap_eq {h : Nat → Int32} {d : Nat} (hd : 2 ≤ d) : (upd (upd h (8 + (d - 1 - 1)) (h (7 + d))) (8 + (d - 1 - 1 + 1)) (h (7 + (d - 1))), d - 1 - 1 + 1 + 1) = (upd (upd h (7 + d) (h (6 + d))) (6 + d) (h (7 + d)), d) := by
  have e1 : 8 + (d - 1 - 1) = 6 + d := by omega
  have e2 : 8 + (d - 1 - 1 + 1) = 7 + d := by omega
  have e3 : 7 + (d - 1) = 6 + d := by omega
  have e4 : d - 1 - 1 + 1 + 1 = d := by omega
  rw [e1, e2, e3, e4, upd_comm h (j := 6 + d) (k := 7 + d) (by omega)]
theorem one_2 {h : Nat → Int32} {d : Nat} (c1 : p_one (h, d) 0 = true) : p_one (h, d - 1) 0 = p_one (h, d) 1 := by
  have h0 := f_one_y_p c1
  unfold p_one
  show (decide (0 < d - 1) && r_one (h (7 + (d - 1) - 0))) = (decide (1 < d) && r_one (h (7 + d - 1)))
  rw [show 7 + (d - 1) - 0 = 7 + d - 1 by omega]
  congr 1
  by_cases z : 1 < d
  · rw [decide_eq_true z, decide_eq_true (by omega)]
  · rw [decide_eq_false z, decide_eq_false (by omega)]
theorem rin_f8 {v : Int64} (h : ¬ v < 8) : ¬ r_isIn v 0 7 = true := by
  rw [r_isIn_iff]
  rw [Int64.lt_iff_toInt_lt] at h
  have y8 : (8 : Int64).toInt = 8 := by decide
  have y7 : (7 : Int64).toInt = 7 := by decide
  omega
theorem new_repl {h : Nat → Int32} {v w : Int32} {d : Nat} (c : p_holds h v d = false) : p_repl h v w (8 + d) = p_repl h v w 8 := by
  funext j
  unfold p_repl
  by_cases z : j < 8
  · by_cases e : h j = v
    · rw [if_pos ⟨by omega, e⟩, if_pos ⟨z, e⟩]
    · rw [if_neg (fun q => e q.2), if_neg (fun q => e q.2)]
  · have n1 : ¬ (j < 8 + d ∧ h j = v) := by
      rintro ⟨q1, q2⟩
      have e : 8 + (j - 8) = j := by omega
      have := holds_yes (h := h) (k := v) (j := j - 8) (by rw [e]; exact q2) d (by omega)
      rw [c] at this
      cases this
    rw [if_neg n1, if_neg (fun q => z q.1)]
theorem f_obj_d {o : Int32} {v : Int64} {q : PL} (c : o.toInt < 21 ∨ 24 < o.toInt) : f_obj o v q = p_23 q := by
  unfold f_obj
  rw [if_neg (fun z => z.elim (ne_of_out c (m := 21) (n := 21) (by decide) (by decide)) (ne_of_out c (m := 22) (n := 22) (by decide) (by decide))), if_neg (ne_of_out c (m := 24) (n := 24) (by decide) (by decide))]
theorem tur_n {o : Int32} {q : PL} (c : ¬ p_one q 0 = true) : f_tur o q = none := by
  have a1 : p_26 q = none := if_neg c
  have a2 : p_27 q = none := if_neg c
  have a3 : p_28 q = none := if_neg (fun z => c z.1)
  unfold f_tur
  rw [a1, a2, a3]
  by_cases c1 : o = 26
  · rw [if_pos c1]
  · rw [if_neg c1]
    by_cases c2 : o = 27
    · rw [if_pos c2]
    · rw [if_neg c2]
set_option maxHeartbeats 4000000 in
set_option maxRecDepth 100000 in
theorem k_F8_stores (Γ : mG) (l : Launch) (L : mI → Nat) (x : CS) (h : Nat → Int32) (d : Nat) (kn : Nat) (k : Int32) (hd : d ≤ 8) (ok : okP (h, d)) (hkn : kn < 8) (ek : k = nI kn) : mMet Γ l yX8_stores cX8_stores 3 (some .boolean) { frames := 2, cells := 0, slots := 0, locals := 41 } [.ref (L (nm 0 7)), .int k] L (cM Γ L (sP x 0 8 (h, d))) (mQi Γ (mFz Γ L x 0 8 (f_sto kn (h, d)))) := by
  refine m_start (by decide) (Nat.le_of_ble_eq_true rfl) ?_
  intro p e s m args below meth c A ls X hr hlk hnm hw hS hl
  have hx := X.1.1
  have hb := X.1.2.1
  have hl : lv_has ls 3 [(0, .ref (L (nm 0 7))), (1, .int k)] := hl
  refine lv_aload_n hx hb dX8_stores_0 rfl (lv_at hl 0 rfl) ?_
  refine s_get (a := 0) (b := 7) (ci := 6) X hw rfl rfl gX8 0 (by decide) fl_X8_10 rfl rfl dX8_stores_1 ?_
  refine m_calli (m_runV (i := nm 0 8) (ci := 4) (As := []) (rest := []) X (k_F6_popOne Γ l L x 0 8 h d  pO8 (by omega)) v_X6_popOne ml_X8_98 hw hS (p_obj Γ L (c := sP x 0 8 (h, d)) pO8) rfl rfl rfl hl.1 ⟨Nat.le_of_ble_eq_true rfl, Nat.le_of_ble_eq_true rfl⟩ (Nat.le_of_ble_eq_true rfl) ⟨Nat.le_of_ble_eq_true rfl, Nat.le_of_ble_eq_true rfl⟩ dX8_stores_4) hS (fun r_1 L1 M1 H locs hp_1 hw hS => ?_)
  obtain ⟨e1, er_1, e2⟩ := hp_1
  rw [e1, e2] at hw; clear e1 e2
  by_cases po_1 : p_one (h, d) 0 = true
  · rw [f_one_y po_1] at er_1 hw
    have er_1 : r_1 = h (7 + d) := er_1
    subst er_1
    have hpos_1 : 0 < d := f_one_y_p po_1
    have hw : mW Γ.1 vwCl A L (cM Γ L (sP x 0 8 (h, d - 1))) H := hw
    have ok_1 : okP (h, d - 1) := ok_dropn (q := (h, d)) (n := 1) ok
    refine lv_istore_n (lv' := [(2, .int (h (7 + d))), (0, .ref (L (nm 0 7))), (1, .int k)]) hx hb dX8_stores_7 rfl hl (by decide) rfl (fun ls hl => ?_)
    refine lv_aload_n hx hb dX8_stores_8 rfl (lv_at hl 1 rfl) ?_
    refine s_get (a := 0) (b := 7) (ci := 6) X hw rfl rfl gX8 0 (by decide) fl_X8_10 rfl rfl dX8_stores_9 ?_
    refine lv_iload_n hx hb dX8_stores_12 rfl (lv_at hl 2 rfl) ?_
    refine lv_iload_n hx hb dX8_stores_13 rfl (lv_at hl 0 rfl) ?_
    refine m_callv (m_runV (i := nm 0 8) (ci := 4) (As := [.int k, .int (h (7 + d))]) (rest := []) X (k_F6_write Γ l L x 0 8 h (d - 1) kn k (h (7 + d)) pO8 (by omega) ok_1.2 (by omega) ek) v_X6_write ml_X8_102 hw hS (p_obj Γ L (c := sP x 0 8 (h, d - 1)) pO8) rfl rfl rfl hl.1 ⟨Nat.le_of_ble_eq_true rfl, Nat.le_of_ble_eq_true rfl⟩ (Nat.le_of_ble_eq_true rfl) ⟨Nat.le_of_ble_eq_true rfl, Nat.le_of_ble_eq_true rfl⟩ dX8_stores_14) hS (fun L1 M1 H locs hp_2 hw hS => ?_)
    obtain ⟨e1, e2⟩ := hp_2
    rw [e1, e2] at hw; clear e1 e2
    refine lv_iload_n hx hb dX8_stores_17 rfl (lv_at hl 0 rfl) ?_
    refine lv_if_eq (tgt := 25) hx hb dX8_stores_18 (by decide) (fun c_3 => ?_) (fun c_3 => ?_)
    · skip
      refine lv_iconst (v := 0) hx hb dX8_stores_25 (by decide) ?_
      exact m_zret (b := false) X hr hlk hw hS (Nat.le_of_ble_eq_true rfl) (Nat.le_of_ble_eq_true rfl) rfl ⟨(p_local h kn (h (7 + d)), d - 1), by show d - 1 ≤ 8; omega, rfl, rfl, (by exact absurd (by assumption) (one_n0 po_1))⟩ dX8_stores_26
    · skip
      refine lv_iconst (v := 1) hx hb dX8_stores_21 (by decide) ?_
      refine lv_goto (tgt := 26) hx hb dX8_stores_22 (by decide) ?_
      exact m_zret (b := true) X hr hlk hw hS (Nat.le_of_ble_eq_true rfl) (Nat.le_of_ble_eq_true rfl) rfl ⟨(p_local h kn (h (7 + d)), d - 1), by show d - 1 ≤ 8; omega, rfl, rfl, (by show mFo (if p_one (h, d) 0 = true then some (p_local h kn (h (8 + (d - 1))), d - 1) else none) _ _; rw [if_pos po_1, show 8 + (d - 1) = 7 + d by omega]; exact mFo.s)⟩ dX8_stores_26
  · rw [f_one_x po_1] at er_1 hw
    have er_1 : r_1 = 0 := er_1
    subst er_1
    have hw : mW Γ.1 vwCl A L (cM Γ L (sP x 0 8 (h, d))) H := hw
    refine lv_istore_n (lv' := [(2, .int 0), (0, .ref (L (nm 0 7))), (1, .int k)]) hx hb dX8_stores_7 rfl hl (by decide) rfl (fun ls hl => ?_)
    refine lv_aload_n hx hb dX8_stores_8 rfl (lv_at hl 1 rfl) ?_
    refine s_get (a := 0) (b := 7) (ci := 6) X hw rfl rfl gX8 0 (by decide) fl_X8_10 rfl rfl dX8_stores_9 ?_
    refine lv_iload_n hx hb dX8_stores_12 rfl (lv_at hl 2 rfl) ?_
    refine lv_iload_n hx hb dX8_stores_13 rfl (lv_at hl 0 rfl) ?_
    refine m_callv (m_runV (i := nm 0 8) (ci := 4) (As := [.int k, .int 0]) (rest := []) X (k_F6_write Γ l L x 0 8 h d kn k 0 pO8 (by omega) ok.2 (by omega) ek) v_X6_write ml_X8_102 hw hS (p_obj Γ L (c := sP x 0 8 (h, d)) pO8) rfl rfl rfl hl.1 ⟨Nat.le_of_ble_eq_true rfl, Nat.le_of_ble_eq_true rfl⟩ (Nat.le_of_ble_eq_true rfl) ⟨Nat.le_of_ble_eq_true rfl, Nat.le_of_ble_eq_true rfl⟩ dX8_stores_14) hS (fun L1 M1 H locs hp_4 hw hS => ?_)
    obtain ⟨e1, e2⟩ := hp_4
    rw [e1, e2] at hw; clear e1 e2
    refine lv_iload_n hx hb dX8_stores_17 rfl (lv_at hl 0 rfl) ?_
    refine lv_if_eq (tgt := 25) hx hb dX8_stores_18 (by decide) (fun _ => ?_) (fun h => absurd rfl h)
    refine lv_iconst (v := 0) hx hb dX8_stores_25 (by decide) ?_
    exact m_zret (b := false) X hr hlk hw hS (Nat.le_of_ble_eq_true rfl) (Nat.le_of_ble_eq_true rfl) rfl ⟨(p_local h kn 0, d), by show d ≤ 8; omega, rfl, rfl, (by unfold f_sto; rw [if_neg po_1]; exact mFo.n)⟩ dX8_stores_26
set_option maxHeartbeats 4000000 in
set_option maxRecDepth 100000 in
theorem k_F8_storesLong (Γ : mG) (l : Launch) (L : mI → Nat) (x : CS) (h : Nat → Int32) (d : Nat) (kn : Nat) (k : Int32) (hd : d ≤ 8) (ok : okP (h, d)) (hkn : kn < 8) (ek : k = nI kn) : mMet Γ l yX8_storesLong cX8_storesLong 2 (some .boolean) { frames := 2, cells := 0, slots := 0, locals := 45 } [.ref (L (nm 0 7)), .int k] L (cM Γ L (sP x 0 8 (h, d))) (mQi Γ (mFz Γ L x 0 8 (f_stl kn (h, d)))) := by
  refine m_start (by decide) (Nat.le_of_ble_eq_true rfl) ?_
  intro p e s m args below meth c A ls X hr hlk hnm hw hS hl
  have hx := X.1.1
  have hb := X.1.2.1
  have hl : lv_has ls 2 [(0, .ref (L (nm 0 7))), (1, .int k)] := hl
  refine lv_iload_n hx hb dX8_storesLong_0 rfl (lv_at hl 1 rfl) ?_
  refine lv_iconst (v := 1) hx hb dX8_storesLong_1 (by decide) ?_
  refine lv_iadd hx hb dX8_storesLong_2 ?_
  refine lv_bipush (v := 8) hx hb dX8_storesLong_3 (by decide) ?_
  refine lv_icmp_ge (tgt := 18) hx hb dX8_storesLong_5 (by decide) (fun c_1 => ?_) (fun c_1 => ?_)
  · skip
    have c_1n : (kn + 1) ≥ 8 := ngeT (a := kn + 1) (b := 8) (nadd (a := kn) (b := 1) ek rfl) rfl (by omega) (by omega) c_1
    have c_1m : ¬ (kn + 1) < 8 := by omega
    refine lv_iconst (v := 0) hx hb dX8_storesLong_18 (by decide) ?_
    exact m_zret (b := false) X hr hlk hw hS (Nat.le_of_ble_eq_true rfl) (Nat.le_of_ble_eq_true rfl) rfl ⟨(h, d), by show d ≤ 8; omega, rfl, rfl, (by unfold f_stl; rw [if_neg (by omega)]; exact mFo.n)⟩ dX8_storesLong_19
  · skip
    have c_1n : ¬ (kn + 1) ≥ 8 := ngeF (a := kn + 1) (b := 8) (nadd (a := kn) (b := 1) ek rfl) rfl (by omega) (by omega) c_1
    have c_1m : (kn + 1) < 8 := by omega
    refine lv_aload_n hx hb dX8_storesLong_8 rfl (lv_at hl 0 rfl) ?_
    refine s_get (a := 0) (b := 7) (ci := 6) X hw rfl rfl gX8 0 (by decide) fl_X8_10 rfl rfl dX8_storesLong_9 ?_
    refine m_calli (m_runV (i := nm 0 8) (ci := 4) (As := []) (rest := []) X (k_F6_popLong Γ l L x 0 8 h d  pO8 (by omega)) v_X6_popLong ml_X8_106 hw hS (p_obj Γ L (c := sP x 0 8 (h, d)) pO8) rfl rfl rfl hl.1 ⟨Nat.le_of_ble_eq_true rfl, Nat.le_of_ble_eq_true rfl⟩ (Nat.le_of_ble_eq_true rfl) ⟨Nat.le_of_ble_eq_true rfl, Nat.le_of_ble_eq_true rfl⟩ dX8_storesLong_12) hS (fun r_2 L1 M1 H locs hp_2 hw hS => ?_)
    obtain ⟨⟨h_2, d_2⟩, hd_2, e1, e2, hm_2⟩ := hp_2
    have hd_2 : d_2 ≤ 8 := hd_2
    rw [e1, e2] at hw; clear e1 e2
    have hm_2 : mFo (p_popL (h, d)) r_2 (h_2, d_2) := hm_2
    cases ho_2 : p_popL (h, d) with
    | none =>
      rw [ho_2] at hm_2
      have hm_2 : r_2 = 0 := hm_2
      subst hm_2
      refine lv_if_ne (tgt := 20) hx hb dX8_storesLong_15 (by decide) (fun h => absurd rfl h) (fun _ => ?_)
      refine lv_iconst (v := 0) hx hb dX8_storesLong_18 (by decide) ?_
      exact m_zret (b := false) X hr hlk hw hS (Nat.le_of_ble_eq_true rfl) (Nat.le_of_ble_eq_true rfl) rfl ⟨(h_2, d_2), by show d_2 ≤ 8; omega, rfl, rfl, (by unfold f_stl; rw [if_pos (by omega), b_n ho_2]; exact mFo.n)⟩ dX8_storesLong_19
    | some z_2 =>
      rw [ho_2] at hm_2
      have hm_2 : r_2 = 1 ∧ (h_2, d_2) = z_2 := hm_2
      obtain ⟨e3, e4⟩ := hm_2
      subst e3; subst e4
      have ok_2 : okP (h_2, d_2) := ok_popL ok _ ho_2
      refine lv_if_ne (tgt := 20) hx hb dX8_storesLong_15 (by decide) (fun _ => ?_) (fun h => absurd h (by decide))
      refine lv_aload_n hx hb dX8_storesLong_20 rfl (lv_at hl 0 rfl) ?_
      refine s_get (a := 0) (b := 7) (ci := 6) X hw rfl rfl gX8 0 (by decide) fl_X8_10 rfl rfl dX8_storesLong_21 ?_
      refine lv_iload_n hx hb dX8_storesLong_24 rfl (lv_at hl 1 rfl) ?_
      refine m_callv (m_runV (i := nm 0 8) (ci := 4) (As := [.int k]) (rest := []) X (k_F6_writeLong Γ l L x 0 8 h_2 d_2 kn k pO8 (by omega) ok_2.2 (by omega) ek) v_X6_writeLong ml_X8_109 hw hS (p_obj Γ L (c := sP x 0 8 (h_2, d_2)) pO8) rfl rfl rfl hl.1 ⟨Nat.le_of_ble_eq_true rfl, Nat.le_of_ble_eq_true rfl⟩ (Nat.le_of_ble_eq_true rfl) ⟨Nat.le_of_ble_eq_true rfl, Nat.le_of_ble_eq_true rfl⟩ dX8_storesLong_25) hS (fun L1 M1 H locs hp_5 hw hS => ?_)
      obtain ⟨e1, e2⟩ := hp_5
      rw [e1, e2] at hw; clear e1 e2
      refine lv_iconst (v := 1) hx hb dX8_storesLong_28 (by decide) ?_
      exact m_zret (b := true) X hr hlk hw hS (Nat.le_of_ble_eq_true rfl) (Nat.le_of_ble_eq_true rfl) rfl ⟨(upd (p_local (p_local h_2 kn 0) (kn + 1) 3) kn 2, d_2), by show d_2 ≤ 8; omega, rfl, rfl, (by unfold f_stl; rw [if_pos (by omega), b_s ho_2]; exact mFo.s)⟩ dX8_storesLong_29
set_option maxHeartbeats 4000000 in
set_option maxRecDepth 100000 in
theorem k_F8_holdsLong (Γ : mG) (l : Launch) (L : mI → Nat) (x : CS) (h : Nat → Int32) (d : Nat) (kn : Nat) (k : Int32) (hd : d ≤ 8) (hkn : kn < 8) (ek : k = nI kn) : mMet Γ l yX8_holdsLong cX8_holdsLong 2 (some .boolean) { frames := 0, cells := 0, slots := 0, locals := 0 } [.ref (L (nm 0 7)), .int k] L (cM Γ L (sP x 0 8 (h, d))) (mQi Γ (fun r L1 M1 => r = bI (decide (kn < 7 ∧ h kn = 2 ∧ h (kn + 1) = 3)) ∧ L1 = L ∧ M1 = cM Γ L (sP x 0 8 (h, d)))) := by
  refine m_start (by decide) (Nat.le_of_ble_eq_true rfl) ?_
  intro p e s m args below meth c A ls X hr hlk hnm hw hS hl
  have hx := X.1.1
  have hb := X.1.2.1
  have hl : lv_has ls 2 [(0, .ref (L (nm 0 7))), (1, .int k)] := hl
  refine lv_iload_n hx hb dX8_holdsLong_0 rfl (lv_at hl 1 rfl) ?_
  refine lv_if_lt (tgt := 44) hx hb dX8_holdsLong_1 (by decide) (fun c_1 => ?_) (fun c_1 => ?_)
  · skip
    have c_1n : kn < 0 := nltT (a := kn) (b := 0) ek rfl (by omega) (by omega) c_1
    have c_1m : ¬ 0 ≤ kn := by omega
    refine lv_iconst (v := 0) hx hb dX8_holdsLong_44 (by decide) ?_
    exact m_zret (b := false) X hr hlk hw hS (Nat.le_of_ble_eq_true rfl) (Nat.le_of_ble_eq_true rfl) rfl ⟨by rw [decide_eq_false (fun z => by obtain ⟨z1, z2, z3⟩ := z; first | omega | exact absurd z2 (by assumption) | exact absurd z3 (by assumption))], rfl, rfl⟩ dX8_holdsLong_45
  · skip
    have c_1n : ¬ kn < 0 := nltF (a := kn) (b := 0) ek rfl (by omega) (by omega) c_1
    have c_1m : 0 ≤ kn := by omega
    refine lv_iload_n hx hb dX8_holdsLong_4 rfl (lv_at hl 1 rfl) ?_
    refine lv_iconst (v := 1) hx hb dX8_holdsLong_5 (by decide) ?_
    refine lv_iadd hx hb dX8_holdsLong_6 ?_
    refine lv_bipush (v := 8) hx hb dX8_holdsLong_7 (by decide) ?_
    refine lv_icmp_ge (tgt := 44) hx hb dX8_holdsLong_9 (by decide) (fun c_2 => ?_) (fun c_2 => ?_)
    · skip
      have c_2n : (kn + 1) ≥ 8 := ngeT (a := kn + 1) (b := 8) (nadd (a := kn) (b := 1) ek rfl) rfl (by omega) (by omega) c_2
      have c_2m : ¬ (kn + 1) < 8 := by omega
      refine lv_iconst (v := 0) hx hb dX8_holdsLong_44 (by decide) ?_
      exact m_zret (b := false) X hr hlk hw hS (Nat.le_of_ble_eq_true rfl) (Nat.le_of_ble_eq_true rfl) rfl ⟨by rw [decide_eq_false (fun z => by obtain ⟨z1, z2, z3⟩ := z; first | omega | exact absurd z2 (by assumption) | exact absurd z3 (by assumption))], rfl, rfl⟩ dX8_holdsLong_45
    · skip
      have c_2n : ¬ (kn + 1) ≥ 8 := ngeF (a := kn + 1) (b := 8) (nadd (a := kn) (b := 1) ek rfl) rfl (by omega) (by omega) c_2
      have c_2m : (kn + 1) < 8 := by omega
      refine lv_aload_n hx hb dX8_holdsLong_12 rfl (lv_at hl 0 rfl) ?_
      refine s_get (a := 0) (b := 7) (ci := 6) X hw rfl rfl gX8 0 (by decide) fl_X8_10 rfl rfl dX8_holdsLong_13 ?_
      refine p_getk X hw pO8 fl_X8_83 rfl dX8_holdsLong_16 ?_
      refine lv_iload_n hx hb dX8_holdsLong_19 rfl (lv_at hl 1 rfl) ?_
      refine p_ald (n := kn) X hw pO8 ek (by omega) dX8_holdsLong_20 ?_
      refine lv_iconst (v := 2) hx hb dX8_holdsLong_21 (by decide) ?_
      refine lv_icmp_ne (tgt := 44) hx hb dX8_holdsLong_22 (by decide) (fun c_3 => ?_) (fun c_3 => ?_)
      · skip
        refine lv_iconst (v := 0) hx hb dX8_holdsLong_44 (by decide) ?_
        exact m_zret (b := false) X hr hlk hw hS (Nat.le_of_ble_eq_true rfl) (Nat.le_of_ble_eq_true rfl) rfl ⟨by rw [decide_eq_false (fun z => by obtain ⟨z1, z2, z3⟩ := z; first | omega | exact absurd z2 (by assumption) | exact absurd z3 (by assumption))], rfl, rfl⟩ dX8_holdsLong_45
      · skip
        refine lv_aload_n hx hb dX8_holdsLong_25 rfl (lv_at hl 0 rfl) ?_
        refine s_get (a := 0) (b := 7) (ci := 6) X hw rfl rfl gX8 0 (by decide) fl_X8_10 rfl rfl dX8_holdsLong_26 ?_
        refine p_getk X hw pO8 fl_X8_83 rfl dX8_holdsLong_29 ?_
        refine lv_iload_n hx hb dX8_holdsLong_32 rfl (lv_at hl 1 rfl) ?_
        refine lv_iconst (v := 1) hx hb dX8_holdsLong_33 (by decide) ?_
        refine lv_iadd hx hb dX8_holdsLong_34 ?_
        refine p_ald (n := kn + 1) X hw pO8 (nadd (a := kn) (b := 1) ek rfl) (by omega) dX8_holdsLong_35 ?_
        refine lv_iconst (v := 3) hx hb dX8_holdsLong_36 (by decide) ?_
        refine lv_icmp_ne (tgt := 44) hx hb dX8_holdsLong_37 (by decide) (fun c_4 => ?_) (fun c_4 => ?_)
        · skip
          refine lv_iconst (v := 0) hx hb dX8_holdsLong_44 (by decide) ?_
          exact m_zret (b := false) X hr hlk hw hS (Nat.le_of_ble_eq_true rfl) (Nat.le_of_ble_eq_true rfl) rfl ⟨by rw [decide_eq_false (fun z => by obtain ⟨z1, z2, z3⟩ := z; first | omega | exact absurd z2 (by assumption) | exact absurd z3 (by assumption))], rfl, rfl⟩ dX8_holdsLong_45
        · skip
          refine lv_iconst (v := 1) hx hb dX8_holdsLong_40 (by decide) ?_
          refine lv_goto (tgt := 45) hx hb dX8_holdsLong_41 (by decide) ?_
          exact m_zret (b := true) X hr hlk hw hS (Nat.le_of_ble_eq_true rfl) (Nat.le_of_ble_eq_true rfl) rfl ⟨by rw [decide_eq_true ⟨by omega, by assumption, by assumption⟩], rfl, rfl⟩ dX8_holdsLong_45
set_option maxHeartbeats 4000000 in
set_option maxRecDepth 100000 in
theorem k_F8_moves (Γ : mG) (l : Launch) (L : mI → Nat) (x : CS) (h : Nat → Int32) (d : Nat) (o : Int32) (v : Int64) (hd : d ≤ 8) (ok : okP (h, d)) : mMet Γ l yX8_moves cX8_moves 5 (some .boolean) { frames := 3, cells := 0, slots := 0, locals := 66 } [.ref (L (nm 0 7)), .int o, .long v] L (cM Γ L (sP x 0 8 (h, d))) (mQi Γ (mFz Γ L x 0 8 (f_mov o v (h, d)))) := by
  refine m_start (by decide) (Nat.le_of_ble_eq_true rfl) ?_
  intro p e s m args below meth c A ls X hr hlk hnm hw hS hl
  have hx := X.1.1
  have hb := X.1.2.1
  have hl : lv_has ls 5 [(0, .ref (L (nm 0 7))), (1, .int o), (2, .long v)] := hl
  refine lv_iload_n hx hb dX8_moves_0 rfl (lv_at hl 1 rfl) ?_
  by_cases c_1 : o.toInt < 0 ∨ 2 < o.toInt
  · refine lv_tableOut (tgt := 54) hx hb dX8_moves_1 c_1 (by decide) ?_
    refine lv_lload_n hx hb dX8_moves_54 rfl (lv_at hl 2 rfl) ?_
    refine lv_lconst (v := 0) hx hb dX8_moves_55 (by decide) ?_
    refine m_lcmp_lt (tgt := 68) hx hb dX8_moves_56 dX8_moves_57 (by decide) (fun c_2 => ?_) (fun c_2 => ?_)
    · skip
      refine lv_iconst (v := 0) hx hb dX8_moves_68 (by decide) ?_
      exact m_zret (b := false) X hr hlk hw hS (Nat.le_of_ble_eq_true rfl) (Nat.le_of_ble_eq_true rfl) rfl ⟨(h, d), by show d ≤ 8; omega, rfl, rfl, (by first | (rw [f_mov_o (by assumption) (by first | exact rin_f1 (by assumption) | exact rin_f8 (by assumption))]; exact mFo.n) | (subst eav; (refine (fun (e9 : o = 3) => ?_) (by assumption); subst e9; show mFo (p_3 (nI an).toInt64 (h, d)) _ _; rw [p3_eq han, if_neg (by show ¬ k_one (h an) = true; rw [show k_one (h an) = false by assumption]; decide)]; exact mFo.n)) | (subst eav; (refine (fun (e9 : o = 5) => ?_) (by assumption); subst e9; show mFo (p_5 (nI an).toInt64 (h, d)) _ _; rw [p5_eq han, if_neg (of_decide_eq_false (by assumption))]; exact mFo.n)))⟩ dX8_moves_69
    · skip
      refine lv_lload_n hx hb dX8_moves_60 rfl (lv_at hl 2 rfl) ?_
      refine lv_ldc2 (v := (8)) hx hb X.1.2.2.2.1 (X.1.2.2.2.2 _ kl_X8_81) dX8_moves_61 ?_
      refine m_lcmp_lt (tgt := 70) hx hb dX8_moves_64 dX8_moves_65 (by decide) (fun c_3 => ?_) (fun c_3 => ?_)
      · skip
        obtain ⟨an, han, ean, eav⟩ := l_nat (n := 8) (by decide) (by assumption) (by assumption)
        refine lv_lload_n hx hb dX8_moves_70 rfl (lv_at hl 2 rfl) ?_
        refine lv_l2i (v := v.toInt32) hx hb dX8_moves_71 rfl ?_
        refine lv_istore (lv' := [(4, .int v.toInt32), (0, .ref (L (nm 0 7))), (1, .int o), (2, .long v)]) hx hb dX8_moves_72 hl (by decide) rfl (fun ls hl => ?_)
        refine lv_iload_n hx hb dX8_moves_74 rfl (lv_at hl 2 rfl) ?_
        by_cases c_4 : o.toInt < 3 ∨ 5 < o.toInt
        · refine lv_tableOut (tgt := 174) hx hb dX8_moves_75 c_4 (by decide) ?_
          refine lv_aload_n hx hb dX8_moves_174 rfl (lv_at hl 1 rfl) ?_
          refine lv_iload hx hb dX8_moves_175 (lv_at hl 0 rfl) ?_
          refine m_calli (m_runV (i := nm 0 7) (ci := 6) (As := [.int v.toInt32]) (rest := []) X (k_F8_storesLong Γ l L x h d an v.toInt32 (by omega) ok (by omega) ean) v_X8_storesLong ml_X8_95 hw hS rfl rfl rfl rfl hl.1 ⟨Nat.le_of_ble_eq_true rfl, Nat.le_of_ble_eq_true rfl⟩ (Nat.le_of_ble_eq_true rfl) ⟨Nat.le_of_ble_eq_true rfl, Nat.le_of_ble_eq_true rfl⟩ dX8_moves_177) hS (fun r_5 L1 M1 H locs hp_5 hw hS => ?_)
          obtain ⟨⟨h_5, d_5⟩, hd_5, e1, e2, hm_5⟩ := hp_5
          have hd_5 : d_5 ≤ 8 := hd_5
          rw [e1, e2] at hw; clear e1 e2
          have hm_5 : mFo (f_stl an (h, d)) r_5 (h_5, d_5) := hm_5
          cases ho_5 : f_stl an (h, d) with
          | none =>
            rw [ho_5] at hm_5
            have hm_5 : r_5 = 0 := hm_5
            subst hm_5
            exact m_zret (b := false) X hr hlk hw hS (Nat.le_of_ble_eq_true rfl) (Nat.le_of_ble_eq_true rfl) rfl ⟨(h_5, d_5), by show d_5 ≤ 8; omega, rfl, rfl, (by first | (refine (fun (e9 : o = 0) => ?_) (by assumption); subst e9; show mFo (p_push (h, d) 1) _ _; rw [ho_5]; exact mFo.n) | (refine (fun (e9 : o = 1) => ?_) (by assumption); subst e9; show mFo (p_pushL (h, d)) _ _; rw [ho_5]; exact mFo.n) | (refine (fun (e9 : o = 2) => ?_) (by assumption); subst e9; show mFo (p_push (h, d) 4) _ _; rw [ho_5]; exact mFo.n) | (subst eav; (refine (fun (e9 : o = 3) => ?_) (by assumption); subst e9; show mFo (p_3 (nI an).toInt64 (h, d)) _ _; rw [p3_eq han, if_pos (show k_one (h an) = true by assumption)]; show mFo (p_push (h, d) (h an)) _ _; rw [ho_5]; exact mFo.n)) | (subst eav; (refine (fun (e9 : o = 4) => ?_) (by assumption); subst e9; show mFo (p_4 (nI an).toInt64 (h, d)) _ _; rw [p4_eq han, ho_5]; exact mFo.n)) | (subst eav; (refine (fun (e9 : o = 5) => ?_) (by assumption); subst e9; show mFo (p_5 (nI an).toInt64 (h, d)) _ _; rw [p5_eq han, if_pos (of_decide_eq_true (by assumption))]; show mFo (p_pushL (h, d)) _ _; rw [ho_5]; exact mFo.n)) | (subst eav; rw [f_mov_6 (by assumption) (by assumption), p6_eq han, ho_5]; exact mFo.n))⟩ dX8_moves_180
          | some z_5 =>
            rw [ho_5] at hm_5
            have hm_5 : r_5 = 1 ∧ (h_5, d_5) = z_5 := hm_5
            obtain ⟨e3, e4⟩ := hm_5
            subst e3; subst e4
            exact m_zret (b := true) X hr hlk hw hS (Nat.le_of_ble_eq_true rfl) (Nat.le_of_ble_eq_true rfl) rfl ⟨(h_5, d_5), by show d_5 ≤ 8; omega, rfl, rfl, (by first | (refine (fun (e9 : o = 0) => ?_) (by assumption); subst e9; show mFo (p_push (h, d) 1) _ _; rw [ho_5]; exact mFo.s) | (refine (fun (e9 : o = 1) => ?_) (by assumption); subst e9; show mFo (p_pushL (h, d)) _ _; rw [ho_5]; exact mFo.s) | (refine (fun (e9 : o = 2) => ?_) (by assumption); subst e9; show mFo (p_push (h, d) 4) _ _; rw [ho_5]; exact mFo.s) | (subst eav; (refine (fun (e9 : o = 3) => ?_) (by assumption); subst e9; show mFo (p_3 (nI an).toInt64 (h, d)) _ _; rw [p3_eq han, if_pos (show k_one (h an) = true by assumption)]; show mFo (p_push (h, d) (h an)) _ _; rw [ho_5]; exact mFo.s)) | (subst eav; (refine (fun (e9 : o = 4) => ?_) (by assumption); subst e9; show mFo (p_4 (nI an).toInt64 (h, d)) _ _; rw [p4_eq han, ho_5]; exact mFo.s)) | (subst eav; (refine (fun (e9 : o = 5) => ?_) (by assumption); subst e9; show mFo (p_5 (nI an).toInt64 (h, d)) _ _; rw [p5_eq han, if_pos (of_decide_eq_true (by assumption))]; show mFo (p_pushL (h, d)) _ _; rw [ho_5]; exact mFo.s)) | (subst eav; rw [f_mov_6 (by assumption) (by assumption), p6_eq han, ho_5]; exact mFo.s))⟩ dX8_moves_180
        · have c_4b : o.toInt = 3 ∨ o.toInt = 4 ∨ o.toInt = 5 := by omega
          rcases c_4b with c_4v | c_4v | c_4v
          · have c_4e : o = 3 := Int32.toInt_inj.mp c_4v
            refine lv_tableIn (off := 25) (tgt := 100) hx hb dX8_moves_75 (by omega) (by omega) (by rw [c_4v]; rfl) (by decide) ?_
            refine lv_aload_n hx hb dX8_moves_100 rfl (lv_at hl 1 rfl) ?_
            refine s_get (a := 0) (b := 7) (ci := 6) X hw rfl rfl gX8 0 (by decide) fl_X8_10 rfl rfl dX8_moves_101 ?_
            refine p_getk X hw pO8 fl_X8_83 rfl dX8_moves_104 ?_
            refine lv_iload hx hb dX8_moves_107 (lv_at hl 0 rfl) ?_
            refine p_ald (n := an) X hw pO8 ean (by omega) dX8_moves_109 ?_
            refine m_calli (m_runS (As := [.int (h an)]) (rest := []) X (k_X3_isOnePlace Γ l L (cM Γ L (sP x 0 8 (h, d))) (h an)) s_X3_isOnePlace ml_X8_86 hw hS rfl hl.1 ⟨Nat.le_of_ble_eq_true rfl, Nat.le_of_ble_eq_true rfl⟩ (Nat.le_of_ble_eq_true rfl) ⟨Nat.le_of_ble_eq_true rfl, Nat.le_of_ble_eq_true rfl⟩ dX8_moves_110) hS (fun r_6 L1 M1 H locs hp_6 hw hS => ?_)
            obtain ⟨rfl, e1, e2⟩ := hp_6
            rw [e1, e2] at hw; clear e1 e2
            refine lv_if_eq (tgt := 140) hx hb dX8_moves_113 (by decide) (fun c_7 => ?_) (fun c_7 => ?_)
            · skip
              have c_7 := bI_f c_7
              refine lv_iconst (v := 0) hx hb dX8_moves_140 (by decide) ?_
              exact m_zret (b := false) X hr hlk hw hS (Nat.le_of_ble_eq_true rfl) (Nat.le_of_ble_eq_true rfl) rfl ⟨(h, d), by show d ≤ 8; omega, rfl, rfl, (by first | (rw [f_mov_o (by assumption) (by first | exact rin_f1 (by assumption) | exact rin_f8 (by assumption))]; exact mFo.n) | (subst eav; (refine (fun (e9 : o = 3) => ?_) (by assumption); subst e9; show mFo (p_3 (nI an).toInt64 (h, d)) _ _; rw [p3_eq han, if_neg (by show ¬ k_one (h an) = true; rw [show k_one (h an) = false by assumption]; decide)]; exact mFo.n)) | (subst eav; (refine (fun (e9 : o = 5) => ?_) (by assumption); subst e9; show mFo (p_5 (nI an).toInt64 (h, d)) _ _; rw [p5_eq han, if_neg (of_decide_eq_false (by assumption))]; exact mFo.n)))⟩ dX8_moves_141
            · skip
              have c_7 := bI_t c_7
              refine lv_aload_n hx hb dX8_moves_116 rfl (lv_at hl 1 rfl) ?_
              refine s_get (a := 0) (b := 7) (ci := 6) X hw rfl rfl gX8 0 (by decide) fl_X8_10 rfl rfl dX8_moves_117 ?_
              refine lv_aload_n hx hb dX8_moves_120 rfl (lv_at hl 1 rfl) ?_
              refine s_get (a := 0) (b := 7) (ci := 6) X hw rfl rfl gX8 0 (by decide) fl_X8_10 rfl rfl dX8_moves_121 ?_
              refine p_getk X hw pO8 fl_X8_83 rfl dX8_moves_124 ?_
              refine lv_iload hx hb dX8_moves_127 (lv_at hl 0 rfl) ?_
              refine p_ald (n := an) X hw pO8 ean (by omega) dX8_moves_129 ?_
              refine m_calli (m_runV (i := nm 0 8) (ci := 4) (As := [.int (h an)]) (rest := []) X (k_F6_push Γ l L x 0 8 h d (h an) pO8 (by omega)) v_X6_push ml_X8_74 hw hS (p_obj Γ L (c := sP x 0 8 (h, d)) pO8) rfl rfl rfl hl.1 ⟨Nat.le_of_ble_eq_true rfl, Nat.le_of_ble_eq_true rfl⟩ (Nat.le_of_ble_eq_true rfl) ⟨Nat.le_of_ble_eq_true rfl, Nat.le_of_ble_eq_true rfl⟩ dX8_moves_130) hS (fun r_8 L1 M1 H locs hp_8 hw hS => ?_)
              obtain ⟨⟨h_8, d_8⟩, hd_8, e1, e2, hm_8⟩ := hp_8
              have hd_8 : d_8 ≤ 8 := hd_8
              rw [e1, e2] at hw; clear e1 e2
              have hm_8 : mFo (p_push (h, d) (h an)) r_8 (h_8, d_8) := hm_8
              cases ho_8 : p_push (h, d) (h an) with
              | none =>
                rw [ho_8] at hm_8
                have hm_8 : r_8 = 0 := hm_8
                subst hm_8
                refine lv_if_eq (tgt := 140) hx hb dX8_moves_133 (by decide) (fun _ => ?_) (fun h => absurd rfl h)
                refine lv_iconst (v := 0) hx hb dX8_moves_140 (by decide) ?_
                exact m_zret (b := false) X hr hlk hw hS (Nat.le_of_ble_eq_true rfl) (Nat.le_of_ble_eq_true rfl) rfl ⟨(h_8, d_8), by show d_8 ≤ 8; omega, rfl, rfl, (by first | (refine (fun (e9 : o = 0) => ?_) (by assumption); subst e9; show mFo (p_push (h, d) 1) _ _; rw [ho_8]; exact mFo.n) | (refine (fun (e9 : o = 1) => ?_) (by assumption); subst e9; show mFo (p_pushL (h, d)) _ _; rw [ho_8]; exact mFo.n) | (refine (fun (e9 : o = 2) => ?_) (by assumption); subst e9; show mFo (p_push (h, d) 4) _ _; rw [ho_8]; exact mFo.n) | (subst eav; (refine (fun (e9 : o = 3) => ?_) (by assumption); subst e9; show mFo (p_3 (nI an).toInt64 (h, d)) _ _; rw [p3_eq han, if_pos (show k_one (h an) = true by assumption)]; show mFo (p_push (h, d) (h an)) _ _; rw [ho_8]; exact mFo.n)) | (subst eav; (refine (fun (e9 : o = 4) => ?_) (by assumption); subst e9; show mFo (p_4 (nI an).toInt64 (h, d)) _ _; rw [p4_eq han, ho_8]; exact mFo.n)) | (subst eav; (refine (fun (e9 : o = 5) => ?_) (by assumption); subst e9; show mFo (p_5 (nI an).toInt64 (h, d)) _ _; rw [p5_eq han, if_pos (of_decide_eq_true (by assumption))]; show mFo (p_pushL (h, d)) _ _; rw [ho_8]; exact mFo.n)) | (subst eav; rw [f_mov_6 (by assumption) (by assumption), p6_eq han, ho_8]; exact mFo.n))⟩ dX8_moves_141
              | some z_8 =>
                rw [ho_8] at hm_8
                have hm_8 : r_8 = 1 ∧ (h_8, d_8) = z_8 := hm_8
                obtain ⟨e3, e4⟩ := hm_8
                subst e3; subst e4
                refine lv_if_eq (tgt := 140) hx hb dX8_moves_133 (by decide) (fun h => absurd h (by decide)) (fun _ => ?_)
                refine lv_iconst (v := 1) hx hb dX8_moves_136 (by decide) ?_
                refine lv_goto (tgt := 141) hx hb dX8_moves_137 (by decide) ?_
                exact m_zret (b := true) X hr hlk hw hS (Nat.le_of_ble_eq_true rfl) (Nat.le_of_ble_eq_true rfl) rfl ⟨(h_8, d_8), by show d_8 ≤ 8; omega, rfl, rfl, (by first | (refine (fun (e9 : o = 0) => ?_) (by assumption); subst e9; show mFo (p_push (h, d) 1) _ _; rw [ho_8]; exact mFo.s) | (refine (fun (e9 : o = 1) => ?_) (by assumption); subst e9; show mFo (p_pushL (h, d)) _ _; rw [ho_8]; exact mFo.s) | (refine (fun (e9 : o = 2) => ?_) (by assumption); subst e9; show mFo (p_push (h, d) 4) _ _; rw [ho_8]; exact mFo.s) | (subst eav; (refine (fun (e9 : o = 3) => ?_) (by assumption); subst e9; show mFo (p_3 (nI an).toInt64 (h, d)) _ _; rw [p3_eq han, if_pos (show k_one (h an) = true by assumption)]; show mFo (p_push (h, d) (h an)) _ _; rw [ho_8]; exact mFo.s)) | (subst eav; (refine (fun (e9 : o = 4) => ?_) (by assumption); subst e9; show mFo (p_4 (nI an).toInt64 (h, d)) _ _; rw [p4_eq han, ho_8]; exact mFo.s)) | (subst eav; (refine (fun (e9 : o = 5) => ?_) (by assumption); subst e9; show mFo (p_5 (nI an).toInt64 (h, d)) _ _; rw [p5_eq han, if_pos (of_decide_eq_true (by assumption))]; show mFo (p_pushL (h, d)) _ _; rw [ho_8]; exact mFo.s)) | (subst eav; rw [f_mov_6 (by assumption) (by assumption), p6_eq han, ho_8]; exact mFo.s))⟩ dX8_moves_141
          · have c_4e : o = 4 := Int32.toInt_inj.mp c_4v
            refine lv_tableIn (off := 67) (tgt := 142) hx hb dX8_moves_75 (by omega) (by omega) (by rw [c_4v]; rfl) (by decide) ?_
            refine lv_aload_n hx hb dX8_moves_142 rfl (lv_at hl 1 rfl) ?_
            refine lv_iload hx hb dX8_moves_143 (lv_at hl 0 rfl) ?_
            refine m_calli (m_runV (i := nm 0 7) (ci := 6) (As := [.int v.toInt32]) (rest := []) X (k_F8_stores Γ l L x h d an v.toInt32 (by omega) ok (by omega) ean) v_X8_stores ml_X8_89 hw hS rfl rfl rfl rfl hl.1 ⟨Nat.le_of_ble_eq_true rfl, Nat.le_of_ble_eq_true rfl⟩ (Nat.le_of_ble_eq_true rfl) ⟨Nat.le_of_ble_eq_true rfl, Nat.le_of_ble_eq_true rfl⟩ dX8_moves_145) hS (fun r_11 L1 M1 H locs hp_11 hw hS => ?_)
            obtain ⟨⟨h_11, d_11⟩, hd_11, e1, e2, hm_11⟩ := hp_11
            have hd_11 : d_11 ≤ 8 := hd_11
            rw [e1, e2] at hw; clear e1 e2
            have hm_11 : mFo (f_sto an (h, d)) r_11 (h_11, d_11) := hm_11
            cases ho_11 : f_sto an (h, d) with
            | none =>
              rw [ho_11] at hm_11
              have hm_11 : r_11 = 0 := hm_11
              subst hm_11
              exact m_zret (b := false) X hr hlk hw hS (Nat.le_of_ble_eq_true rfl) (Nat.le_of_ble_eq_true rfl) rfl ⟨(h_11, d_11), by show d_11 ≤ 8; omega, rfl, rfl, (by first | (refine (fun (e9 : o = 0) => ?_) (by assumption); subst e9; show mFo (p_push (h, d) 1) _ _; rw [ho_11]; exact mFo.n) | (refine (fun (e9 : o = 1) => ?_) (by assumption); subst e9; show mFo (p_pushL (h, d)) _ _; rw [ho_11]; exact mFo.n) | (refine (fun (e9 : o = 2) => ?_) (by assumption); subst e9; show mFo (p_push (h, d) 4) _ _; rw [ho_11]; exact mFo.n) | (subst eav; (refine (fun (e9 : o = 3) => ?_) (by assumption); subst e9; show mFo (p_3 (nI an).toInt64 (h, d)) _ _; rw [p3_eq han, if_pos (show k_one (h an) = true by assumption)]; show mFo (p_push (h, d) (h an)) _ _; rw [ho_11]; exact mFo.n)) | (subst eav; (refine (fun (e9 : o = 4) => ?_) (by assumption); subst e9; show mFo (p_4 (nI an).toInt64 (h, d)) _ _; rw [p4_eq han, ho_11]; exact mFo.n)) | (subst eav; (refine (fun (e9 : o = 5) => ?_) (by assumption); subst e9; show mFo (p_5 (nI an).toInt64 (h, d)) _ _; rw [p5_eq han, if_pos (of_decide_eq_true (by assumption))]; show mFo (p_pushL (h, d)) _ _; rw [ho_11]; exact mFo.n)) | (subst eav; rw [f_mov_6 (by assumption) (by assumption), p6_eq han, ho_11]; exact mFo.n))⟩ dX8_moves_148
            | some z_11 =>
              rw [ho_11] at hm_11
              have hm_11 : r_11 = 1 ∧ (h_11, d_11) = z_11 := hm_11
              obtain ⟨e3, e4⟩ := hm_11
              subst e3; subst e4
              exact m_zret (b := true) X hr hlk hw hS (Nat.le_of_ble_eq_true rfl) (Nat.le_of_ble_eq_true rfl) rfl ⟨(h_11, d_11), by show d_11 ≤ 8; omega, rfl, rfl, (by first | (refine (fun (e9 : o = 0) => ?_) (by assumption); subst e9; show mFo (p_push (h, d) 1) _ _; rw [ho_11]; exact mFo.s) | (refine (fun (e9 : o = 1) => ?_) (by assumption); subst e9; show mFo (p_pushL (h, d)) _ _; rw [ho_11]; exact mFo.s) | (refine (fun (e9 : o = 2) => ?_) (by assumption); subst e9; show mFo (p_push (h, d) 4) _ _; rw [ho_11]; exact mFo.s) | (subst eav; (refine (fun (e9 : o = 3) => ?_) (by assumption); subst e9; show mFo (p_3 (nI an).toInt64 (h, d)) _ _; rw [p3_eq han, if_pos (show k_one (h an) = true by assumption)]; show mFo (p_push (h, d) (h an)) _ _; rw [ho_11]; exact mFo.s)) | (subst eav; (refine (fun (e9 : o = 4) => ?_) (by assumption); subst e9; show mFo (p_4 (nI an).toInt64 (h, d)) _ _; rw [p4_eq han, ho_11]; exact mFo.s)) | (subst eav; (refine (fun (e9 : o = 5) => ?_) (by assumption); subst e9; show mFo (p_5 (nI an).toInt64 (h, d)) _ _; rw [p5_eq han, if_pos (of_decide_eq_true (by assumption))]; show mFo (p_pushL (h, d)) _ _; rw [ho_11]; exact mFo.s)) | (subst eav; rw [f_mov_6 (by assumption) (by assumption), p6_eq han, ho_11]; exact mFo.s))⟩ dX8_moves_148
          · have c_4e : o = 5 := Int32.toInt_inj.mp c_4v
            refine lv_tableIn (off := 74) (tgt := 149) hx hb dX8_moves_75 (by omega) (by omega) (by rw [c_4v]; rfl) (by decide) ?_
            refine lv_aload_n hx hb dX8_moves_149 rfl (lv_at hl 1 rfl) ?_
            refine lv_iload hx hb dX8_moves_150 (lv_at hl 0 rfl) ?_
            refine m_calli (m_runV (i := nm 0 7) (ci := 6) (As := [.int v.toInt32]) (rest := []) X (k_F8_holdsLong Γ l L x h d an v.toInt32 (by omega) (by omega) ean) v_X8_holdsLong ml_X8_92 hw hS rfl rfl rfl rfl hl.1 ⟨Nat.le_of_ble_eq_true rfl, Nat.le_of_ble_eq_true rfl⟩ (Nat.le_of_ble_eq_true rfl) ⟨Nat.le_of_ble_eq_true rfl, Nat.le_of_ble_eq_true rfl⟩ dX8_moves_152) hS (fun r_12 L1 M1 H locs hp_12 hw hS => ?_)
            obtain ⟨rfl, e1, e2⟩ := hp_12
            rw [e1, e2] at hw; clear e1 e2
            refine lv_if_eq (tgt := 172) hx hb dX8_moves_155 (by decide) (fun c_13 => ?_) (fun c_13 => ?_)
            · skip
              have c_13 := bI_f c_13
              refine lv_iconst (v := 0) hx hb dX8_moves_172 (by decide) ?_
              exact m_zret (b := false) X hr hlk hw hS (Nat.le_of_ble_eq_true rfl) (Nat.le_of_ble_eq_true rfl) rfl ⟨(h, d), by show d ≤ 8; omega, rfl, rfl, (by first | (rw [f_mov_o (by assumption) (by first | exact rin_f1 (by assumption) | exact rin_f8 (by assumption))]; exact mFo.n) | (subst eav; (refine (fun (e9 : o = 3) => ?_) (by assumption); subst e9; show mFo (p_3 (nI an).toInt64 (h, d)) _ _; rw [p3_eq han, if_neg (by show ¬ k_one (h an) = true; rw [show k_one (h an) = false by assumption]; decide)]; exact mFo.n)) | (subst eav; (refine (fun (e9 : o = 5) => ?_) (by assumption); subst e9; show mFo (p_5 (nI an).toInt64 (h, d)) _ _; rw [p5_eq han, if_neg (of_decide_eq_false (by assumption))]; exact mFo.n)))⟩ dX8_moves_173
            · skip
              have c_13 := bI_t c_13
              refine lv_aload_n hx hb dX8_moves_158 rfl (lv_at hl 1 rfl) ?_
              refine s_get (a := 0) (b := 7) (ci := 6) X hw rfl rfl gX8 0 (by decide) fl_X8_10 rfl rfl dX8_moves_159 ?_
              refine m_calli (m_runV (i := nm 0 8) (ci := 4) (As := []) (rest := []) X (k_F6_pushLong Γ l L x 0 8 h d  pO8 (by omega)) v_X6_pushLong ml_X8_77 hw hS (p_obj Γ L (c := sP x 0 8 (h, d)) pO8) rfl rfl rfl hl.1 ⟨Nat.le_of_ble_eq_true rfl, Nat.le_of_ble_eq_true rfl⟩ (Nat.le_of_ble_eq_true rfl) ⟨Nat.le_of_ble_eq_true rfl, Nat.le_of_ble_eq_true rfl⟩ dX8_moves_162) hS (fun r_14 L1 M1 H locs hp_14 hw hS => ?_)
              obtain ⟨⟨h_14, d_14⟩, hd_14, e1, e2, hm_14⟩ := hp_14
              have hd_14 : d_14 ≤ 8 := hd_14
              rw [e1, e2] at hw; clear e1 e2
              have hm_14 : mFo (p_pushL (h, d)) r_14 (h_14, d_14) := hm_14
              cases ho_14 : p_pushL (h, d) with
              | none =>
                rw [ho_14] at hm_14
                have hm_14 : r_14 = 0 := hm_14
                subst hm_14
                refine lv_if_eq (tgt := 172) hx hb dX8_moves_165 (by decide) (fun _ => ?_) (fun h => absurd rfl h)
                refine lv_iconst (v := 0) hx hb dX8_moves_172 (by decide) ?_
                exact m_zret (b := false) X hr hlk hw hS (Nat.le_of_ble_eq_true rfl) (Nat.le_of_ble_eq_true rfl) rfl ⟨(h_14, d_14), by show d_14 ≤ 8; omega, rfl, rfl, (by first | (refine (fun (e9 : o = 0) => ?_) (by assumption); subst e9; show mFo (p_push (h, d) 1) _ _; rw [ho_14]; exact mFo.n) | (refine (fun (e9 : o = 1) => ?_) (by assumption); subst e9; show mFo (p_pushL (h, d)) _ _; rw [ho_14]; exact mFo.n) | (refine (fun (e9 : o = 2) => ?_) (by assumption); subst e9; show mFo (p_push (h, d) 4) _ _; rw [ho_14]; exact mFo.n) | (subst eav; (refine (fun (e9 : o = 3) => ?_) (by assumption); subst e9; show mFo (p_3 (nI an).toInt64 (h, d)) _ _; rw [p3_eq han, if_pos (show k_one (h an) = true by assumption)]; show mFo (p_push (h, d) (h an)) _ _; rw [ho_14]; exact mFo.n)) | (subst eav; (refine (fun (e9 : o = 4) => ?_) (by assumption); subst e9; show mFo (p_4 (nI an).toInt64 (h, d)) _ _; rw [p4_eq han, ho_14]; exact mFo.n)) | (subst eav; (refine (fun (e9 : o = 5) => ?_) (by assumption); subst e9; show mFo (p_5 (nI an).toInt64 (h, d)) _ _; rw [p5_eq han, if_pos (of_decide_eq_true (by assumption))]; show mFo (p_pushL (h, d)) _ _; rw [ho_14]; exact mFo.n)) | (subst eav; rw [f_mov_6 (by assumption) (by assumption), p6_eq han, ho_14]; exact mFo.n))⟩ dX8_moves_173
              | some z_14 =>
                rw [ho_14] at hm_14
                have hm_14 : r_14 = 1 ∧ (h_14, d_14) = z_14 := hm_14
                obtain ⟨e3, e4⟩ := hm_14
                subst e3; subst e4
                refine lv_if_eq (tgt := 172) hx hb dX8_moves_165 (by decide) (fun h => absurd h (by decide)) (fun _ => ?_)
                refine lv_iconst (v := 1) hx hb dX8_moves_168 (by decide) ?_
                refine lv_goto (tgt := 173) hx hb dX8_moves_169 (by decide) ?_
                exact m_zret (b := true) X hr hlk hw hS (Nat.le_of_ble_eq_true rfl) (Nat.le_of_ble_eq_true rfl) rfl ⟨(h_14, d_14), by show d_14 ≤ 8; omega, rfl, rfl, (by first | (refine (fun (e9 : o = 0) => ?_) (by assumption); subst e9; show mFo (p_push (h, d) 1) _ _; rw [ho_14]; exact mFo.s) | (refine (fun (e9 : o = 1) => ?_) (by assumption); subst e9; show mFo (p_pushL (h, d)) _ _; rw [ho_14]; exact mFo.s) | (refine (fun (e9 : o = 2) => ?_) (by assumption); subst e9; show mFo (p_push (h, d) 4) _ _; rw [ho_14]; exact mFo.s) | (subst eav; (refine (fun (e9 : o = 3) => ?_) (by assumption); subst e9; show mFo (p_3 (nI an).toInt64 (h, d)) _ _; rw [p3_eq han, if_pos (show k_one (h an) = true by assumption)]; show mFo (p_push (h, d) (h an)) _ _; rw [ho_14]; exact mFo.s)) | (subst eav; (refine (fun (e9 : o = 4) => ?_) (by assumption); subst e9; show mFo (p_4 (nI an).toInt64 (h, d)) _ _; rw [p4_eq han, ho_14]; exact mFo.s)) | (subst eav; (refine (fun (e9 : o = 5) => ?_) (by assumption); subst e9; show mFo (p_5 (nI an).toInt64 (h, d)) _ _; rw [p5_eq han, if_pos (of_decide_eq_true (by assumption))]; show mFo (p_pushL (h, d)) _ _; rw [ho_14]; exact mFo.s)) | (subst eav; rw [f_mov_6 (by assumption) (by assumption), p6_eq han, ho_14]; exact mFo.s))⟩ dX8_moves_173
      · skip
        refine lv_iconst (v := 0) hx hb dX8_moves_68 (by decide) ?_
        exact m_zret (b := false) X hr hlk hw hS (Nat.le_of_ble_eq_true rfl) (Nat.le_of_ble_eq_true rfl) rfl ⟨(h, d), by show d ≤ 8; omega, rfl, rfl, (by first | (rw [f_mov_o (by assumption) (by first | exact rin_f1 (by assumption) | exact rin_f8 (by assumption))]; exact mFo.n) | (subst eav; (refine (fun (e9 : o = 3) => ?_) (by assumption); subst e9; show mFo (p_3 (nI an).toInt64 (h, d)) _ _; rw [p3_eq han, if_neg (by show ¬ k_one (h an) = true; rw [show k_one (h an) = false by assumption]; decide)]; exact mFo.n)) | (subst eav; (refine (fun (e9 : o = 5) => ?_) (by assumption); subst e9; show mFo (p_5 (nI an).toInt64 (h, d)) _ _; rw [p5_eq han, if_neg (of_decide_eq_false (by assumption))]; exact mFo.n)))⟩ dX8_moves_69
  · have c_1b : o.toInt = 0 ∨ o.toInt = 1 ∨ o.toInt = 2 := by omega
    rcases c_1b with c_1v | c_1v | c_1v
    · have c_1e : o = 0 := Int32.toInt_inj.mp c_1v
      refine lv_tableIn (off := 27) (tgt := 28) hx hb dX8_moves_1 (by omega) (by omega) (by rw [c_1v]; rfl) (by decide) ?_
      refine lv_aload_n hx hb dX8_moves_28 rfl (lv_at hl 0 rfl) ?_
      refine s_get (a := 0) (b := 7) (ci := 6) X hw rfl rfl gX8 0 (by decide) fl_X8_10 rfl rfl dX8_moves_29 ?_
      refine lv_iconst (v := 1) hx hb dX8_moves_32 (by decide) ?_
      refine m_calli (m_runV (i := nm 0 8) (ci := 4) (As := [.int 1]) (rest := []) X (k_F6_push Γ l L x 0 8 h d 1 pO8 (by omega)) v_X6_push ml_X8_74 hw hS (p_obj Γ L (c := sP x 0 8 (h, d)) pO8) rfl rfl rfl hl.1 ⟨Nat.le_of_ble_eq_true rfl, Nat.le_of_ble_eq_true rfl⟩ (Nat.le_of_ble_eq_true rfl) ⟨Nat.le_of_ble_eq_true rfl, Nat.le_of_ble_eq_true rfl⟩ dX8_moves_33) hS (fun r_17 L1 M1 H locs hp_17 hw hS => ?_)
      obtain ⟨⟨h_17, d_17⟩, hd_17, e1, e2, hm_17⟩ := hp_17
      have hd_17 : d_17 ≤ 8 := hd_17
      rw [e1, e2] at hw; clear e1 e2
      have hm_17 : mFo (p_push (h, d) 1) r_17 (h_17, d_17) := hm_17
      cases ho_17 : p_push (h, d) 1 with
      | none =>
        rw [ho_17] at hm_17
        have hm_17 : r_17 = 0 := hm_17
        subst hm_17
        exact m_zret (b := false) X hr hlk hw hS (Nat.le_of_ble_eq_true rfl) (Nat.le_of_ble_eq_true rfl) rfl ⟨(h_17, d_17), by show d_17 ≤ 8; omega, rfl, rfl, (by first | (refine (fun (e9 : o = 0) => ?_) (by assumption); subst e9; show mFo (p_push (h, d) 1) _ _; rw [ho_17]; exact mFo.n) | (refine (fun (e9 : o = 1) => ?_) (by assumption); subst e9; show mFo (p_pushL (h, d)) _ _; rw [ho_17]; exact mFo.n) | (refine (fun (e9 : o = 2) => ?_) (by assumption); subst e9; show mFo (p_push (h, d) 4) _ _; rw [ho_17]; exact mFo.n) | (subst eav; (refine (fun (e9 : o = 3) => ?_) (by assumption); subst e9; show mFo (p_3 (nI an).toInt64 (h, d)) _ _; rw [p3_eq han, if_pos (show k_one (h an) = true by assumption)]; show mFo (p_push (h, d) (h an)) _ _; rw [ho_17]; exact mFo.n)) | (subst eav; (refine (fun (e9 : o = 4) => ?_) (by assumption); subst e9; show mFo (p_4 (nI an).toInt64 (h, d)) _ _; rw [p4_eq han, ho_17]; exact mFo.n)) | (subst eav; (refine (fun (e9 : o = 5) => ?_) (by assumption); subst e9; show mFo (p_5 (nI an).toInt64 (h, d)) _ _; rw [p5_eq han, if_pos (of_decide_eq_true (by assumption))]; show mFo (p_pushL (h, d)) _ _; rw [ho_17]; exact mFo.n)) | (subst eav; rw [f_mov_6 (by assumption) (by assumption), p6_eq han, ho_17]; exact mFo.n))⟩ dX8_moves_36
      | some z_17 =>
        rw [ho_17] at hm_17
        have hm_17 : r_17 = 1 ∧ (h_17, d_17) = z_17 := hm_17
        obtain ⟨e3, e4⟩ := hm_17
        subst e3; subst e4
        exact m_zret (b := true) X hr hlk hw hS (Nat.le_of_ble_eq_true rfl) (Nat.le_of_ble_eq_true rfl) rfl ⟨(h_17, d_17), by show d_17 ≤ 8; omega, rfl, rfl, (by first | (refine (fun (e9 : o = 0) => ?_) (by assumption); subst e9; show mFo (p_push (h, d) 1) _ _; rw [ho_17]; exact mFo.s) | (refine (fun (e9 : o = 1) => ?_) (by assumption); subst e9; show mFo (p_pushL (h, d)) _ _; rw [ho_17]; exact mFo.s) | (refine (fun (e9 : o = 2) => ?_) (by assumption); subst e9; show mFo (p_push (h, d) 4) _ _; rw [ho_17]; exact mFo.s) | (subst eav; (refine (fun (e9 : o = 3) => ?_) (by assumption); subst e9; show mFo (p_3 (nI an).toInt64 (h, d)) _ _; rw [p3_eq han, if_pos (show k_one (h an) = true by assumption)]; show mFo (p_push (h, d) (h an)) _ _; rw [ho_17]; exact mFo.s)) | (subst eav; (refine (fun (e9 : o = 4) => ?_) (by assumption); subst e9; show mFo (p_4 (nI an).toInt64 (h, d)) _ _; rw [p4_eq han, ho_17]; exact mFo.s)) | (subst eav; (refine (fun (e9 : o = 5) => ?_) (by assumption); subst e9; show mFo (p_5 (nI an).toInt64 (h, d)) _ _; rw [p5_eq han, if_pos (of_decide_eq_true (by assumption))]; show mFo (p_pushL (h, d)) _ _; rw [ho_17]; exact mFo.s)) | (subst eav; rw [f_mov_6 (by assumption) (by assumption), p6_eq han, ho_17]; exact mFo.s))⟩ dX8_moves_36
    · have c_1e : o = 1 := Int32.toInt_inj.mp c_1v
      refine lv_tableIn (off := 36) (tgt := 37) hx hb dX8_moves_1 (by omega) (by omega) (by rw [c_1v]; rfl) (by decide) ?_
      refine lv_aload_n hx hb dX8_moves_37 rfl (lv_at hl 0 rfl) ?_
      refine s_get (a := 0) (b := 7) (ci := 6) X hw rfl rfl gX8 0 (by decide) fl_X8_10 rfl rfl dX8_moves_38 ?_
      refine m_calli (m_runV (i := nm 0 8) (ci := 4) (As := []) (rest := []) X (k_F6_pushLong Γ l L x 0 8 h d  pO8 (by omega)) v_X6_pushLong ml_X8_77 hw hS (p_obj Γ L (c := sP x 0 8 (h, d)) pO8) rfl rfl rfl hl.1 ⟨Nat.le_of_ble_eq_true rfl, Nat.le_of_ble_eq_true rfl⟩ (Nat.le_of_ble_eq_true rfl) ⟨Nat.le_of_ble_eq_true rfl, Nat.le_of_ble_eq_true rfl⟩ dX8_moves_41) hS (fun r_18 L1 M1 H locs hp_18 hw hS => ?_)
      obtain ⟨⟨h_18, d_18⟩, hd_18, e1, e2, hm_18⟩ := hp_18
      have hd_18 : d_18 ≤ 8 := hd_18
      rw [e1, e2] at hw; clear e1 e2
      have hm_18 : mFo (p_pushL (h, d)) r_18 (h_18, d_18) := hm_18
      cases ho_18 : p_pushL (h, d) with
      | none =>
        rw [ho_18] at hm_18
        have hm_18 : r_18 = 0 := hm_18
        subst hm_18
        exact m_zret (b := false) X hr hlk hw hS (Nat.le_of_ble_eq_true rfl) (Nat.le_of_ble_eq_true rfl) rfl ⟨(h_18, d_18), by show d_18 ≤ 8; omega, rfl, rfl, (by first | (refine (fun (e9 : o = 0) => ?_) (by assumption); subst e9; show mFo (p_push (h, d) 1) _ _; rw [ho_18]; exact mFo.n) | (refine (fun (e9 : o = 1) => ?_) (by assumption); subst e9; show mFo (p_pushL (h, d)) _ _; rw [ho_18]; exact mFo.n) | (refine (fun (e9 : o = 2) => ?_) (by assumption); subst e9; show mFo (p_push (h, d) 4) _ _; rw [ho_18]; exact mFo.n) | (subst eav; (refine (fun (e9 : o = 3) => ?_) (by assumption); subst e9; show mFo (p_3 (nI an).toInt64 (h, d)) _ _; rw [p3_eq han, if_pos (show k_one (h an) = true by assumption)]; show mFo (p_push (h, d) (h an)) _ _; rw [ho_18]; exact mFo.n)) | (subst eav; (refine (fun (e9 : o = 4) => ?_) (by assumption); subst e9; show mFo (p_4 (nI an).toInt64 (h, d)) _ _; rw [p4_eq han, ho_18]; exact mFo.n)) | (subst eav; (refine (fun (e9 : o = 5) => ?_) (by assumption); subst e9; show mFo (p_5 (nI an).toInt64 (h, d)) _ _; rw [p5_eq han, if_pos (of_decide_eq_true (by assumption))]; show mFo (p_pushL (h, d)) _ _; rw [ho_18]; exact mFo.n)) | (subst eav; rw [f_mov_6 (by assumption) (by assumption), p6_eq han, ho_18]; exact mFo.n))⟩ dX8_moves_44
      | some z_18 =>
        rw [ho_18] at hm_18
        have hm_18 : r_18 = 1 ∧ (h_18, d_18) = z_18 := hm_18
        obtain ⟨e3, e4⟩ := hm_18
        subst e3; subst e4
        exact m_zret (b := true) X hr hlk hw hS (Nat.le_of_ble_eq_true rfl) (Nat.le_of_ble_eq_true rfl) rfl ⟨(h_18, d_18), by show d_18 ≤ 8; omega, rfl, rfl, (by first | (refine (fun (e9 : o = 0) => ?_) (by assumption); subst e9; show mFo (p_push (h, d) 1) _ _; rw [ho_18]; exact mFo.s) | (refine (fun (e9 : o = 1) => ?_) (by assumption); subst e9; show mFo (p_pushL (h, d)) _ _; rw [ho_18]; exact mFo.s) | (refine (fun (e9 : o = 2) => ?_) (by assumption); subst e9; show mFo (p_push (h, d) 4) _ _; rw [ho_18]; exact mFo.s) | (subst eav; (refine (fun (e9 : o = 3) => ?_) (by assumption); subst e9; show mFo (p_3 (nI an).toInt64 (h, d)) _ _; rw [p3_eq han, if_pos (show k_one (h an) = true by assumption)]; show mFo (p_push (h, d) (h an)) _ _; rw [ho_18]; exact mFo.s)) | (subst eav; (refine (fun (e9 : o = 4) => ?_) (by assumption); subst e9; show mFo (p_4 (nI an).toInt64 (h, d)) _ _; rw [p4_eq han, ho_18]; exact mFo.s)) | (subst eav; (refine (fun (e9 : o = 5) => ?_) (by assumption); subst e9; show mFo (p_5 (nI an).toInt64 (h, d)) _ _; rw [p5_eq han, if_pos (of_decide_eq_true (by assumption))]; show mFo (p_pushL (h, d)) _ _; rw [ho_18]; exact mFo.s)) | (subst eav; rw [f_mov_6 (by assumption) (by assumption), p6_eq han, ho_18]; exact mFo.s))⟩ dX8_moves_44
    · have c_1e : o = 2 := Int32.toInt_inj.mp c_1v
      refine lv_tableIn (off := 44) (tgt := 45) hx hb dX8_moves_1 (by omega) (by omega) (by rw [c_1v]; rfl) (by decide) ?_
      refine lv_aload_n hx hb dX8_moves_45 rfl (lv_at hl 0 rfl) ?_
      refine s_get (a := 0) (b := 7) (ci := 6) X hw rfl rfl gX8 0 (by decide) fl_X8_10 rfl rfl dX8_moves_46 ?_
      refine lv_iconst (v := 4) hx hb dX8_moves_49 (by decide) ?_
      refine m_calli (m_runV (i := nm 0 8) (ci := 4) (As := [.int 4]) (rest := []) X (k_F6_push Γ l L x 0 8 h d 4 pO8 (by omega)) v_X6_push ml_X8_74 hw hS (p_obj Γ L (c := sP x 0 8 (h, d)) pO8) rfl rfl rfl hl.1 ⟨Nat.le_of_ble_eq_true rfl, Nat.le_of_ble_eq_true rfl⟩ (Nat.le_of_ble_eq_true rfl) ⟨Nat.le_of_ble_eq_true rfl, Nat.le_of_ble_eq_true rfl⟩ dX8_moves_50) hS (fun r_19 L1 M1 H locs hp_19 hw hS => ?_)
      obtain ⟨⟨h_19, d_19⟩, hd_19, e1, e2, hm_19⟩ := hp_19
      have hd_19 : d_19 ≤ 8 := hd_19
      rw [e1, e2] at hw; clear e1 e2
      have hm_19 : mFo (p_push (h, d) 4) r_19 (h_19, d_19) := hm_19
      cases ho_19 : p_push (h, d) 4 with
      | none =>
        rw [ho_19] at hm_19
        have hm_19 : r_19 = 0 := hm_19
        subst hm_19
        exact m_zret (b := false) X hr hlk hw hS (Nat.le_of_ble_eq_true rfl) (Nat.le_of_ble_eq_true rfl) rfl ⟨(h_19, d_19), by show d_19 ≤ 8; omega, rfl, rfl, (by first | (refine (fun (e9 : o = 0) => ?_) (by assumption); subst e9; show mFo (p_push (h, d) 1) _ _; rw [ho_19]; exact mFo.n) | (refine (fun (e9 : o = 1) => ?_) (by assumption); subst e9; show mFo (p_pushL (h, d)) _ _; rw [ho_19]; exact mFo.n) | (refine (fun (e9 : o = 2) => ?_) (by assumption); subst e9; show mFo (p_push (h, d) 4) _ _; rw [ho_19]; exact mFo.n) | (subst eav; (refine (fun (e9 : o = 3) => ?_) (by assumption); subst e9; show mFo (p_3 (nI an).toInt64 (h, d)) _ _; rw [p3_eq han, if_pos (show k_one (h an) = true by assumption)]; show mFo (p_push (h, d) (h an)) _ _; rw [ho_19]; exact mFo.n)) | (subst eav; (refine (fun (e9 : o = 4) => ?_) (by assumption); subst e9; show mFo (p_4 (nI an).toInt64 (h, d)) _ _; rw [p4_eq han, ho_19]; exact mFo.n)) | (subst eav; (refine (fun (e9 : o = 5) => ?_) (by assumption); subst e9; show mFo (p_5 (nI an).toInt64 (h, d)) _ _; rw [p5_eq han, if_pos (of_decide_eq_true (by assumption))]; show mFo (p_pushL (h, d)) _ _; rw [ho_19]; exact mFo.n)) | (subst eav; rw [f_mov_6 (by assumption) (by assumption), p6_eq han, ho_19]; exact mFo.n))⟩ dX8_moves_53
      | some z_19 =>
        rw [ho_19] at hm_19
        have hm_19 : r_19 = 1 ∧ (h_19, d_19) = z_19 := hm_19
        obtain ⟨e3, e4⟩ := hm_19
        subst e3; subst e4
        exact m_zret (b := true) X hr hlk hw hS (Nat.le_of_ble_eq_true rfl) (Nat.le_of_ble_eq_true rfl) rfl ⟨(h_19, d_19), by show d_19 ≤ 8; omega, rfl, rfl, (by first | (refine (fun (e9 : o = 0) => ?_) (by assumption); subst e9; show mFo (p_push (h, d) 1) _ _; rw [ho_19]; exact mFo.s) | (refine (fun (e9 : o = 1) => ?_) (by assumption); subst e9; show mFo (p_pushL (h, d)) _ _; rw [ho_19]; exact mFo.s) | (refine (fun (e9 : o = 2) => ?_) (by assumption); subst e9; show mFo (p_push (h, d) 4) _ _; rw [ho_19]; exact mFo.s) | (subst eav; (refine (fun (e9 : o = 3) => ?_) (by assumption); subst e9; show mFo (p_3 (nI an).toInt64 (h, d)) _ _; rw [p3_eq han, if_pos (show k_one (h an) = true by assumption)]; show mFo (p_push (h, d) (h an)) _ _; rw [ho_19]; exact mFo.s)) | (subst eav; (refine (fun (e9 : o = 4) => ?_) (by assumption); subst e9; show mFo (p_4 (nI an).toInt64 (h, d)) _ _; rw [p4_eq han, ho_19]; exact mFo.s)) | (subst eav; (refine (fun (e9 : o = 5) => ?_) (by assumption); subst e9; show mFo (p_5 (nI an).toInt64 (h, d)) _ _; rw [p5_eq han, if_pos (of_decide_eq_true (by assumption))]; show mFo (p_pushL (h, d)) _ _; rw [ho_19]; exact mFo.s)) | (subst eav; rw [f_mov_6 (by assumption) (by assumption), p6_eq han, ho_19]; exact mFo.s))⟩ dX8_moves_53
set_option maxHeartbeats 4000000 in
set_option maxRecDepth 100000 in
theorem k_F8_reckons (Γ : mG) (l : Launch) (L : mI → Nat) (x : CS) (h : Nat → Int32) (d : Nat) (o : Int32) (v : Int64) (hd : d ≤ 8) (ok : okP (h, d)) : mMet Γ l yX8_reckons cX8_reckons 5 (some .boolean) { frames := 3, cells := 0, slots := 0, locals := 63 } [.ref (L (nm 0 7)), .int o, .long v] L (cM Γ L (sP x 0 8 (h, d))) (mQi Γ (mFz Γ L x 0 8 (f_rec o v (h, d)))) := by
  refine m_start (by decide) (Nat.le_of_ble_eq_true rfl) ?_
  intro p e s m args below meth c A ls X hr hlk hnm hw hS hl
  have hx := X.1.1
  have hb := X.1.2.1
  have hl : lv_has ls 5 [(0, .ref (L (nm 0 7))), (1, .int o), (2, .long v)] := hl
  refine lv_lload_n hx hb dX8_reckons_0 rfl (lv_at hl 2 rfl) ?_
  refine lv_lconst (v := 0) hx hb dX8_reckons_1 (by decide) ?_
  refine m_lcmp_lt (tgt := 18) hx hb dX8_reckons_2 dX8_reckons_3 (by decide) (fun c_1 => ?_) (fun c_1 => ?_)
  · skip
    refine lv_iconst (v := 0) hx hb dX8_reckons_18 (by decide) ?_
    refine lv_istore (lv' := [(4, .int 0), (0, .ref (L (nm 0 7))), (1, .int o), (2, .long v)]) hx hb dX8_reckons_19 hl (by decide) rfl (fun ls hl => ?_)
    refine lv_iload_n hx hb dX8_reckons_21 rfl (lv_at hl 2 rfl) ?_
    by_cases c_2 : o.toInt < 7 ∨ 10 < o.toInt
    · refine lv_tableOut (tgt := 191) hx hb dX8_reckons_22 c_2 (by decide) ?_
      refine lv_aload_n hx hb dX8_reckons_191 rfl (lv_at hl 1 rfl) ?_
      refine s_get (a := 0) (b := 7) (ci := 6) X hw rfl rfl gX8 0 (by decide) fl_X8_10 rfl rfl dX8_reckons_192 ?_
      refine m_calli (m_runV (i := nm 0 8) (ci := 4) (As := []) (rest := []) X (k_F6_popLong Γ l L x 0 8 h d  pO8 (by omega)) v_X6_popLong ml_X8_106 hw hS (p_obj Γ L (c := sP x 0 8 (h, d)) pO8) rfl rfl rfl hl.1 ⟨Nat.le_of_ble_eq_true rfl, Nat.le_of_ble_eq_true rfl⟩ (Nat.le_of_ble_eq_true rfl) ⟨Nat.le_of_ble_eq_true rfl, Nat.le_of_ble_eq_true rfl⟩ dX8_reckons_195) hS (fun r_3 L1 M1 H locs hp_3 hw hS => ?_)
      obtain ⟨⟨h_3, d_3⟩, hd_3, e1, e2, hm_3⟩ := hp_3
      have hd_3 : d_3 ≤ 8 := hd_3
      rw [e1, e2] at hw; clear e1 e2
      have hm_3 : mFo (p_popL (h, d)) r_3 (h_3, d_3) := hm_3
      cases ho_3 : p_popL (h, d) with
      | none =>
        rw [ho_3] at hm_3
        have hm_3 : r_3 = 0 := hm_3
        subst hm_3
        refine lv_if_eq (tgt := 226) hx hb dX8_reckons_198 (by decide) (fun _ => ?_) (fun h => absurd rfl h)
        refine lv_iconst (v := 0) hx hb dX8_reckons_226 (by decide) ?_
        exact m_zret (b := false) X hr hlk hw hS (Nat.le_of_ble_eq_true rfl) (Nat.le_of_ble_eq_true rfl) rfl ⟨(h_3, d_3), by show d_3 ≤ 8; omega, rfl, rfl, (by first | (refine (fun (e9 : o = 7) => ?_) (by assumption); subst e9; show mFo (p_7 v (h, d)) _ _; unfold p_7; rw [if_pos (rin_t (by assumption) (by assumption))]; first | (rw [ho_3]; exact mFo.n) | (rw [b_n ho_3]; exact mFo.n)) | (refine (fun (e9 : o = 8) => ?_) (by assumption); subst e9; show mFo (p_8 v (h, d)) _ _; unfold p_8; rw [if_pos (rin_t (by assumption) (by assumption))]; first | (rw [ho_3]; exact mFo.n) | (rw [b_n ho_3]; exact mFo.n)) | (refine (fun (e9 : o = 9) => ?_) (by assumption); subst e9; show mFo (p_9 (h, d)) _ _; unfold p_9; first | (rw [ho_3]; exact mFo.n) | (rw [b_n ho_3]; exact mFo.n)) | (refine (fun (e9 : o = 10) => ?_) (by assumption); subst e9; show mFo (p_10 (h, d)) _ _; unfold p_10; first | (rw [ho_3]; exact mFo.n) | (rw [b_n ho_3]; exact mFo.n)) | (rw [f_rec_d (by assumption)]; unfold p_11; first | (rw [ho_3]; exact mFo.n) | (rw [b_n ho_3]; exact mFo.n)))⟩ dX8_reckons_227
      | some z_3 =>
        rw [ho_3] at hm_3
        have hm_3 : r_3 = 1 ∧ (h_3, d_3) = z_3 := hm_3
        obtain ⟨e3, e4⟩ := hm_3
        subst e3; subst e4
        have ok_3 : okP (h_3, d_3) := ok_popL ok _ ho_3
        refine lv_if_eq (tgt := 226) hx hb dX8_reckons_198 (by decide) (fun h => absurd h (by decide)) (fun _ => ?_)
        refine lv_aload_n hx hb dX8_reckons_201 rfl (lv_at hl 1 rfl) ?_
        refine s_get (a := 0) (b := 7) (ci := 6) X hw rfl rfl gX8 0 (by decide) fl_X8_10 rfl rfl dX8_reckons_202 ?_
        refine m_calli (m_runV (i := nm 0 8) (ci := 4) (As := []) (rest := []) X (k_F6_popLong Γ l L x 0 8 h_3 d_3  pO8 (by omega)) v_X6_popLong ml_X8_106 hw hS (p_obj Γ L (c := sP x 0 8 (h_3, d_3)) pO8) rfl rfl rfl hl.1 ⟨Nat.le_of_ble_eq_true rfl, Nat.le_of_ble_eq_true rfl⟩ (Nat.le_of_ble_eq_true rfl) ⟨Nat.le_of_ble_eq_true rfl, Nat.le_of_ble_eq_true rfl⟩ dX8_reckons_205) hS (fun r_6 L1 M1 H locs hp_6 hw hS => ?_)
        obtain ⟨⟨h_6, d_6⟩, hd_6, e1, e2, hm_6⟩ := hp_6
        have hd_6 : d_6 ≤ 8 := hd_6
        rw [e1, e2] at hw; clear e1 e2
        have hm_6 : mFo (p_popL (h_3, d_3)) r_6 (h_6, d_6) := hm_6
        cases ho_6 : p_popL (h_3, d_3) with
        | none =>
          rw [ho_6] at hm_6
          have hm_6 : r_6 = 0 := hm_6
          subst hm_6
          refine lv_if_eq (tgt := 226) hx hb dX8_reckons_208 (by decide) (fun _ => ?_) (fun h => absurd rfl h)
          refine lv_iconst (v := 0) hx hb dX8_reckons_226 (by decide) ?_
          exact m_zret (b := false) X hr hlk hw hS (Nat.le_of_ble_eq_true rfl) (Nat.le_of_ble_eq_true rfl) rfl ⟨(h_6, d_6), by show d_6 ≤ 8; omega, rfl, rfl, (by first | (refine (fun (e9 : o = 7) => ?_) (by assumption); subst e9; show mFo (p_7 v (h, d)) _ _; unfold p_7; rw [if_pos (rin_t (by assumption) (by assumption))]; first | (rw [b_s ho_3, ho_6]; exact mFo.n) | (rw [b_s ho_3, b_n ho_6]; exact mFo.n)) | (refine (fun (e9 : o = 8) => ?_) (by assumption); subst e9; show mFo (p_8 v (h, d)) _ _; unfold p_8; rw [if_pos (rin_t (by assumption) (by assumption))]; first | (rw [b_s ho_3, ho_6]; exact mFo.n) | (rw [b_s ho_3, b_n ho_6]; exact mFo.n)) | (refine (fun (e9 : o = 9) => ?_) (by assumption); subst e9; show mFo (p_9 (h, d)) _ _; unfold p_9; first | (rw [b_s ho_3, ho_6]; exact mFo.n) | (rw [b_s ho_3, b_n ho_6]; exact mFo.n)) | (refine (fun (e9 : o = 10) => ?_) (by assumption); subst e9; show mFo (p_10 (h, d)) _ _; unfold p_10; first | (rw [b_s ho_3, ho_6]; exact mFo.n) | (rw [b_s ho_3, b_n ho_6]; exact mFo.n)) | (rw [f_rec_d (by assumption)]; unfold p_11; first | (rw [b_s ho_3, ho_6]; exact mFo.n) | (rw [b_s ho_3, b_n ho_6]; exact mFo.n)))⟩ dX8_reckons_227
        | some z_6 =>
          rw [ho_6] at hm_6
          have hm_6 : r_6 = 1 ∧ (h_6, d_6) = z_6 := hm_6
          obtain ⟨e3, e4⟩ := hm_6
          subst e3; subst e4
          have ok_6 : okP (h_6, d_6) := ok_popL ok_3 _ ho_6
          refine lv_if_eq (tgt := 226) hx hb dX8_reckons_208 (by decide) (fun h => absurd h (by decide)) (fun _ => ?_)
          refine lv_aload_n hx hb dX8_reckons_211 rfl (lv_at hl 1 rfl) ?_
          refine s_get (a := 0) (b := 7) (ci := 6) X hw rfl rfl gX8 0 (by decide) fl_X8_10 rfl rfl dX8_reckons_212 ?_
          refine lv_iconst (v := 1) hx hb dX8_reckons_215 (by decide) ?_
          refine m_calli (m_runV (i := nm 0 8) (ci := 4) (As := [.int 1]) (rest := []) X (k_F6_push Γ l L x 0 8 h_6 d_6 1 pO8 (by omega)) v_X6_push ml_X8_74 hw hS (p_obj Γ L (c := sP x 0 8 (h_6, d_6)) pO8) rfl rfl rfl hl.1 ⟨Nat.le_of_ble_eq_true rfl, Nat.le_of_ble_eq_true rfl⟩ (Nat.le_of_ble_eq_true rfl) ⟨Nat.le_of_ble_eq_true rfl, Nat.le_of_ble_eq_true rfl⟩ dX8_reckons_216) hS (fun r_9 L1 M1 H locs hp_9 hw hS => ?_)
          obtain ⟨⟨h_9, d_9⟩, hd_9, e1, e2, hm_9⟩ := hp_9
          have hd_9 : d_9 ≤ 8 := hd_9
          rw [e1, e2] at hw; clear e1 e2
          have hm_9 : mFo (p_push (h_6, d_6) 1) r_9 (h_9, d_9) := hm_9
          cases ho_9 : p_push (h_6, d_6) 1 with
          | none =>
            rw [ho_9] at hm_9
            have hm_9 : r_9 = 0 := hm_9
            subst hm_9
            refine lv_if_eq (tgt := 226) hx hb dX8_reckons_219 (by decide) (fun _ => ?_) (fun h => absurd rfl h)
            refine lv_iconst (v := 0) hx hb dX8_reckons_226 (by decide) ?_
            exact m_zret (b := false) X hr hlk hw hS (Nat.le_of_ble_eq_true rfl) (Nat.le_of_ble_eq_true rfl) rfl ⟨(h_9, d_9), by show d_9 ≤ 8; omega, rfl, rfl, (by first | (refine (fun (e9 : o = 7) => ?_) (by assumption); subst e9; show mFo (p_7 v (h, d)) _ _; unfold p_7; rw [if_pos (rin_t (by assumption) (by assumption))]; first | (rw [b_s ho_3, b_s ho_6, ho_9]; exact mFo.n) | (rw [b_s ho_3, b_s ho_6, b_n ho_9]; exact mFo.n)) | (refine (fun (e9 : o = 8) => ?_) (by assumption); subst e9; show mFo (p_8 v (h, d)) _ _; unfold p_8; rw [if_pos (rin_t (by assumption) (by assumption))]; first | (rw [b_s ho_3, b_s ho_6, ho_9]; exact mFo.n) | (rw [b_s ho_3, b_s ho_6, b_n ho_9]; exact mFo.n)) | (refine (fun (e9 : o = 9) => ?_) (by assumption); subst e9; show mFo (p_9 (h, d)) _ _; unfold p_9; first | (rw [b_s ho_3, b_s ho_6, ho_9]; exact mFo.n) | (rw [b_s ho_3, b_s ho_6, b_n ho_9]; exact mFo.n)) | (refine (fun (e9 : o = 10) => ?_) (by assumption); subst e9; show mFo (p_10 (h, d)) _ _; unfold p_10; first | (rw [b_s ho_3, b_s ho_6, ho_9]; exact mFo.n) | (rw [b_s ho_3, b_s ho_6, b_n ho_9]; exact mFo.n)) | (rw [f_rec_d (by assumption)]; unfold p_11; first | (rw [b_s ho_3, b_s ho_6, ho_9]; exact mFo.n) | (rw [b_s ho_3, b_s ho_6, b_n ho_9]; exact mFo.n)))⟩ dX8_reckons_227
          | some z_9 =>
            rw [ho_9] at hm_9
            have hm_9 : r_9 = 1 ∧ (h_9, d_9) = z_9 := hm_9
            obtain ⟨e3, e4⟩ := hm_9
            subst e3; subst e4
            refine lv_if_eq (tgt := 226) hx hb dX8_reckons_219 (by decide) (fun h => absurd h (by decide)) (fun _ => ?_)
            refine lv_iconst (v := 1) hx hb dX8_reckons_222 (by decide) ?_
            refine lv_goto (tgt := 227) hx hb dX8_reckons_223 (by decide) ?_
            exact m_zret (b := true) X hr hlk hw hS (Nat.le_of_ble_eq_true rfl) (Nat.le_of_ble_eq_true rfl) rfl ⟨(h_9, d_9), by show d_9 ≤ 8; omega, rfl, rfl, (by first | (refine (fun (e9 : o = 7) => ?_) (by assumption); subst e9; show mFo (p_7 v (h, d)) _ _; unfold p_7; rw [if_pos (rin_t (by assumption) (by assumption))]; first | (rw [b_s ho_3, b_s ho_6, ho_9]; exact mFo.s) | (rw [b_s ho_3, b_s ho_6, b_s ho_9]; exact mFo.s)) | (refine (fun (e9 : o = 8) => ?_) (by assumption); subst e9; show mFo (p_8 v (h, d)) _ _; unfold p_8; rw [if_pos (rin_t (by assumption) (by assumption))]; first | (rw [b_s ho_3, b_s ho_6, ho_9]; exact mFo.s) | (rw [b_s ho_3, b_s ho_6, b_s ho_9]; exact mFo.s)) | (refine (fun (e9 : o = 9) => ?_) (by assumption); subst e9; show mFo (p_9 (h, d)) _ _; unfold p_9; first | (rw [b_s ho_3, b_s ho_6, ho_9]; exact mFo.s) | (rw [b_s ho_3, b_s ho_6, b_s ho_9]; exact mFo.s)) | (refine (fun (e9 : o = 10) => ?_) (by assumption); subst e9; show mFo (p_10 (h, d)) _ _; unfold p_10; first | (rw [b_s ho_3, b_s ho_6, ho_9]; exact mFo.s) | (rw [b_s ho_3, b_s ho_6, b_s ho_9]; exact mFo.s)) | (rw [f_rec_d (by assumption)]; unfold p_11; first | (rw [b_s ho_3, b_s ho_6, ho_9]; exact mFo.s) | (rw [b_s ho_3, b_s ho_6, b_s ho_9]; exact mFo.s)))⟩ dX8_reckons_227
    · have c_2b : o.toInt = 7 ∨ o.toInt = 8 ∨ o.toInt = 9 ∨ o.toInt = 10 := by omega
      rcases c_2b with c_2v | c_2v | c_2v | c_2v
      · have c_2e : o = 7 := Int32.toInt_inj.mp c_2v
        refine lv_tableIn (off := 30) (tgt := 52) hx hb dX8_reckons_22 (by omega) (by omega) (by rw [c_2v]; rfl) (by decide) ?_
        refine lv_iload hx hb dX8_reckons_52 (lv_at hl 0 rfl) ?_
        refine lv_if_eq (tgt := 94) hx hb dX8_reckons_54 (by decide) (fun c_12 => ?_) (fun c_12 => ?_)
        · skip
          have c_12n : 0 = 0 := neqT (a := 0) (b := 0) rfl rfl (by omega) (by omega) c_12
          refine lv_iconst (v := 0) hx hb dX8_reckons_94 (by decide) ?_
          exact m_zret (b := false) X hr hlk hw hS (Nat.le_of_ble_eq_true rfl) (Nat.le_of_ble_eq_true rfl) rfl ⟨(h, d), by show d ≤ 8; omega, rfl, rfl, (by first | (refine (fun (e9 : o = 7) => ?_) (by assumption); subst e9; show mFo (p_7 v (h, d)) _ _; unfold p_7; rw [if_neg (by first | exact rin_f1 (by assumption) | exact rin_f2 (by assumption))]; exact mFo.n) | (refine (fun (e9 : o = 8) => ?_) (by assumption); subst e9; show mFo (p_8 v (h, d)) _ _; unfold p_8; rw [if_neg (by first | exact rin_f1 (by assumption) | exact rin_f2 (by assumption))]; exact mFo.n))⟩ dX8_reckons_95
        · skip
          exact absurd c_12 (by decide)
      · have c_2e : o = 8 := Int32.toInt_inj.mp c_2v
        refine lv_tableIn (off := 74) (tgt := 96) hx hb dX8_reckons_22 (by omega) (by omega) (by rw [c_2v]; rfl) (by decide) ?_
        refine lv_iload hx hb dX8_reckons_96 (lv_at hl 0 rfl) ?_
        refine lv_if_eq (tgt := 135) hx hb dX8_reckons_98 (by decide) (fun c_13 => ?_) (fun c_13 => ?_)
        · skip
          have c_13n : 0 = 0 := neqT (a := 0) (b := 0) rfl rfl (by omega) (by omega) c_13
          refine lv_iconst (v := 0) hx hb dX8_reckons_135 (by decide) ?_
          exact m_zret (b := false) X hr hlk hw hS (Nat.le_of_ble_eq_true rfl) (Nat.le_of_ble_eq_true rfl) rfl ⟨(h, d), by show d ≤ 8; omega, rfl, rfl, (by first | (refine (fun (e9 : o = 7) => ?_) (by assumption); subst e9; show mFo (p_7 v (h, d)) _ _; unfold p_7; rw [if_neg (by first | exact rin_f1 (by assumption) | exact rin_f2 (by assumption))]; exact mFo.n) | (refine (fun (e9 : o = 8) => ?_) (by assumption); subst e9; show mFo (p_8 v (h, d)) _ _; unfold p_8; rw [if_neg (by first | exact rin_f1 (by assumption) | exact rin_f2 (by assumption))]; exact mFo.n))⟩ dX8_reckons_136
        · skip
          exact absurd c_13 (by decide)
      · have c_2e : o = 9 := Int32.toInt_inj.mp c_2v
        refine lv_tableIn (off := 115) (tgt := 137) hx hb dX8_reckons_22 (by omega) (by omega) (by rw [c_2v]; rfl) (by decide) ?_
        refine lv_aload_n hx hb dX8_reckons_137 rfl (lv_at hl 1 rfl) ?_
        refine s_get (a := 0) (b := 7) (ci := 6) X hw rfl rfl gX8 0 (by decide) fl_X8_10 rfl rfl dX8_reckons_138 ?_
        refine lv_iconst (v := 1) hx hb dX8_reckons_141 (by decide) ?_
        refine m_calli (m_runV (i := nm 0 8) (ci := 4) (As := [.int 1]) (rest := []) X (k_F6_pop Γ l L x 0 8 h d 1 pO8 (by omega) ok (by decide) (by decide)) v_X6_pop ml_X8_115 hw hS (p_obj Γ L (c := sP x 0 8 (h, d)) pO8) rfl rfl rfl hl.1 ⟨Nat.le_of_ble_eq_true rfl, Nat.le_of_ble_eq_true rfl⟩ (Nat.le_of_ble_eq_true rfl) ⟨Nat.le_of_ble_eq_true rfl, Nat.le_of_ble_eq_true rfl⟩ dX8_reckons_142) hS (fun r_14 L1 M1 H locs hp_14 hw hS => ?_)
        obtain ⟨⟨h_14, d_14⟩, hd_14, e1, e2, hm_14, hz_14⟩ := hp_14
        have hd_14 : d_14 ≤ 8 := hd_14
        rw [e1, e2] at hw; clear e1 e2
        have hm_14 : mFo (p_pop (h, d) 1) r_14 (h_14, d_14) := hm_14
        cases ho_14 : p_pop (h, d) 1 with
        | none =>
          rw [ho_14] at hm_14
          have hm_14 : r_14 = 0 := hm_14
          subst hm_14
          have hw : mW Γ.1 vwCl A L (cM Γ L (sP x 0 8 (h, d))) H := by rw [hz_14 ho_14] at hw; exact hw
          refine lv_if_eq (tgt := 162) hx hb dX8_reckons_145 (by decide) (fun _ => ?_) (fun h => absurd rfl h)
          refine lv_iconst (v := 0) hx hb dX8_reckons_162 (by decide) ?_
          exact m_zret (b := false) X hr hlk hw hS (Nat.le_of_ble_eq_true rfl) (Nat.le_of_ble_eq_true rfl) rfl ⟨(h, d), by show d ≤ 8; omega, rfl, rfl, (by first | (refine (fun (e9 : o = 7) => ?_) (by assumption); subst e9; show mFo (p_7 v (h, d)) _ _; unfold p_7; rw [if_pos (rin_t (by assumption) (by assumption))]; first | (rw [ho_14]; exact mFo.n) | (rw [b_n ho_14]; exact mFo.n)) | (refine (fun (e9 : o = 8) => ?_) (by assumption); subst e9; show mFo (p_8 v (h, d)) _ _; unfold p_8; rw [if_pos (rin_t (by assumption) (by assumption))]; first | (rw [ho_14]; exact mFo.n) | (rw [b_n ho_14]; exact mFo.n)) | (refine (fun (e9 : o = 9) => ?_) (by assumption); subst e9; show mFo (p_9 (h, d)) _ _; unfold p_9; first | (rw [ho_14]; exact mFo.n) | (rw [b_n ho_14]; exact mFo.n)) | (refine (fun (e9 : o = 10) => ?_) (by assumption); subst e9; show mFo (p_10 (h, d)) _ _; unfold p_10; first | (rw [ho_14]; exact mFo.n) | (rw [b_n ho_14]; exact mFo.n)) | (rw [f_rec_d (by assumption)]; unfold p_11; first | (rw [ho_14]; exact mFo.n) | (rw [b_n ho_14]; exact mFo.n)))⟩ dX8_reckons_163
        | some z_14 =>
          rw [ho_14] at hm_14
          have hm_14 : r_14 = 1 ∧ (h_14, d_14) = z_14 := hm_14
          obtain ⟨e3, e4⟩ := hm_14
          subst e3; subst e4
          have ok_14 : okP (h_14, d_14) := ok_pop ok _ ho_14
          refine lv_if_eq (tgt := 162) hx hb dX8_reckons_145 (by decide) (fun h => absurd h (by decide)) (fun _ => ?_)
          refine lv_aload_n hx hb dX8_reckons_148 rfl (lv_at hl 1 rfl) ?_
          refine s_get (a := 0) (b := 7) (ci := 6) X hw rfl rfl gX8 0 (by decide) fl_X8_10 rfl rfl dX8_reckons_149 ?_
          refine m_calli (m_runV (i := nm 0 8) (ci := 4) (As := []) (rest := []) X (k_F6_pushLong Γ l L x 0 8 h_14 d_14  pO8 (by omega)) v_X6_pushLong ml_X8_77 hw hS (p_obj Γ L (c := sP x 0 8 (h_14, d_14)) pO8) rfl rfl rfl hl.1 ⟨Nat.le_of_ble_eq_true rfl, Nat.le_of_ble_eq_true rfl⟩ (Nat.le_of_ble_eq_true rfl) ⟨Nat.le_of_ble_eq_true rfl, Nat.le_of_ble_eq_true rfl⟩ dX8_reckons_152) hS (fun r_17 L1 M1 H locs hp_17 hw hS => ?_)
          obtain ⟨⟨h_17, d_17⟩, hd_17, e1, e2, hm_17⟩ := hp_17
          have hd_17 : d_17 ≤ 8 := hd_17
          rw [e1, e2] at hw; clear e1 e2
          have hm_17 : mFo (p_pushL (h_14, d_14)) r_17 (h_17, d_17) := hm_17
          cases ho_17 : p_pushL (h_14, d_14) with
          | none =>
            rw [ho_17] at hm_17
            have hm_17 : r_17 = 0 := hm_17
            subst hm_17
            refine lv_if_eq (tgt := 162) hx hb dX8_reckons_155 (by decide) (fun _ => ?_) (fun h => absurd rfl h)
            refine lv_iconst (v := 0) hx hb dX8_reckons_162 (by decide) ?_
            exact m_zret (b := false) X hr hlk hw hS (Nat.le_of_ble_eq_true rfl) (Nat.le_of_ble_eq_true rfl) rfl ⟨(h_17, d_17), by show d_17 ≤ 8; omega, rfl, rfl, (by first | (refine (fun (e9 : o = 7) => ?_) (by assumption); subst e9; show mFo (p_7 v (h, d)) _ _; unfold p_7; rw [if_pos (rin_t (by assumption) (by assumption))]; first | (rw [b_s ho_14, ho_17]; exact mFo.n) | (rw [b_s ho_14, b_n ho_17]; exact mFo.n)) | (refine (fun (e9 : o = 8) => ?_) (by assumption); subst e9; show mFo (p_8 v (h, d)) _ _; unfold p_8; rw [if_pos (rin_t (by assumption) (by assumption))]; first | (rw [b_s ho_14, ho_17]; exact mFo.n) | (rw [b_s ho_14, b_n ho_17]; exact mFo.n)) | (refine (fun (e9 : o = 9) => ?_) (by assumption); subst e9; show mFo (p_9 (h, d)) _ _; unfold p_9; first | (rw [b_s ho_14, ho_17]; exact mFo.n) | (rw [b_s ho_14, b_n ho_17]; exact mFo.n)) | (refine (fun (e9 : o = 10) => ?_) (by assumption); subst e9; show mFo (p_10 (h, d)) _ _; unfold p_10; first | (rw [b_s ho_14, ho_17]; exact mFo.n) | (rw [b_s ho_14, b_n ho_17]; exact mFo.n)) | (rw [f_rec_d (by assumption)]; unfold p_11; first | (rw [b_s ho_14, ho_17]; exact mFo.n) | (rw [b_s ho_14, b_n ho_17]; exact mFo.n)))⟩ dX8_reckons_163
          | some z_17 =>
            rw [ho_17] at hm_17
            have hm_17 : r_17 = 1 ∧ (h_17, d_17) = z_17 := hm_17
            obtain ⟨e3, e4⟩ := hm_17
            subst e3; subst e4
            refine lv_if_eq (tgt := 162) hx hb dX8_reckons_155 (by decide) (fun h => absurd h (by decide)) (fun _ => ?_)
            refine lv_iconst (v := 1) hx hb dX8_reckons_158 (by decide) ?_
            refine lv_goto (tgt := 163) hx hb dX8_reckons_159 (by decide) ?_
            exact m_zret (b := true) X hr hlk hw hS (Nat.le_of_ble_eq_true rfl) (Nat.le_of_ble_eq_true rfl) rfl ⟨(h_17, d_17), by show d_17 ≤ 8; omega, rfl, rfl, (by first | (refine (fun (e9 : o = 7) => ?_) (by assumption); subst e9; show mFo (p_7 v (h, d)) _ _; unfold p_7; rw [if_pos (rin_t (by assumption) (by assumption))]; first | (rw [b_s ho_14, ho_17]; exact mFo.s) | (rw [b_s ho_14, b_s ho_17]; exact mFo.s)) | (refine (fun (e9 : o = 8) => ?_) (by assumption); subst e9; show mFo (p_8 v (h, d)) _ _; unfold p_8; rw [if_pos (rin_t (by assumption) (by assumption))]; first | (rw [b_s ho_14, ho_17]; exact mFo.s) | (rw [b_s ho_14, b_s ho_17]; exact mFo.s)) | (refine (fun (e9 : o = 9) => ?_) (by assumption); subst e9; show mFo (p_9 (h, d)) _ _; unfold p_9; first | (rw [b_s ho_14, ho_17]; exact mFo.s) | (rw [b_s ho_14, b_s ho_17]; exact mFo.s)) | (refine (fun (e9 : o = 10) => ?_) (by assumption); subst e9; show mFo (p_10 (h, d)) _ _; unfold p_10; first | (rw [b_s ho_14, ho_17]; exact mFo.s) | (rw [b_s ho_14, b_s ho_17]; exact mFo.s)) | (rw [f_rec_d (by assumption)]; unfold p_11; first | (rw [b_s ho_14, ho_17]; exact mFo.s) | (rw [b_s ho_14, b_s ho_17]; exact mFo.s)))⟩ dX8_reckons_163
      · have c_2e : o = 10 := Int32.toInt_inj.mp c_2v
        refine lv_tableIn (off := 142) (tgt := 164) hx hb dX8_reckons_22 (by omega) (by omega) (by rw [c_2v]; rfl) (by decide) ?_
        refine lv_aload_n hx hb dX8_reckons_164 rfl (lv_at hl 1 rfl) ?_
        refine s_get (a := 0) (b := 7) (ci := 6) X hw rfl rfl gX8 0 (by decide) fl_X8_10 rfl rfl dX8_reckons_165 ?_
        refine m_calli (m_runV (i := nm 0 8) (ci := 4) (As := []) (rest := []) X (k_F6_popLong Γ l L x 0 8 h d  pO8 (by omega)) v_X6_popLong ml_X8_106 hw hS (p_obj Γ L (c := sP x 0 8 (h, d)) pO8) rfl rfl rfl hl.1 ⟨Nat.le_of_ble_eq_true rfl, Nat.le_of_ble_eq_true rfl⟩ (Nat.le_of_ble_eq_true rfl) ⟨Nat.le_of_ble_eq_true rfl, Nat.le_of_ble_eq_true rfl⟩ dX8_reckons_168) hS (fun r_20 L1 M1 H locs hp_20 hw hS => ?_)
        obtain ⟨⟨h_20, d_20⟩, hd_20, e1, e2, hm_20⟩ := hp_20
        have hd_20 : d_20 ≤ 8 := hd_20
        rw [e1, e2] at hw; clear e1 e2
        have hm_20 : mFo (p_popL (h, d)) r_20 (h_20, d_20) := hm_20
        cases ho_20 : p_popL (h, d) with
        | none =>
          rw [ho_20] at hm_20
          have hm_20 : r_20 = 0 := hm_20
          subst hm_20
          refine lv_if_eq (tgt := 189) hx hb dX8_reckons_171 (by decide) (fun _ => ?_) (fun h => absurd rfl h)
          refine lv_iconst (v := 0) hx hb dX8_reckons_189 (by decide) ?_
          exact m_zret (b := false) X hr hlk hw hS (Nat.le_of_ble_eq_true rfl) (Nat.le_of_ble_eq_true rfl) rfl ⟨(h_20, d_20), by show d_20 ≤ 8; omega, rfl, rfl, (by first | (refine (fun (e9 : o = 7) => ?_) (by assumption); subst e9; show mFo (p_7 v (h, d)) _ _; unfold p_7; rw [if_pos (rin_t (by assumption) (by assumption))]; first | (rw [ho_20]; exact mFo.n) | (rw [b_n ho_20]; exact mFo.n)) | (refine (fun (e9 : o = 8) => ?_) (by assumption); subst e9; show mFo (p_8 v (h, d)) _ _; unfold p_8; rw [if_pos (rin_t (by assumption) (by assumption))]; first | (rw [ho_20]; exact mFo.n) | (rw [b_n ho_20]; exact mFo.n)) | (refine (fun (e9 : o = 9) => ?_) (by assumption); subst e9; show mFo (p_9 (h, d)) _ _; unfold p_9; first | (rw [ho_20]; exact mFo.n) | (rw [b_n ho_20]; exact mFo.n)) | (refine (fun (e9 : o = 10) => ?_) (by assumption); subst e9; show mFo (p_10 (h, d)) _ _; unfold p_10; first | (rw [ho_20]; exact mFo.n) | (rw [b_n ho_20]; exact mFo.n)) | (rw [f_rec_d (by assumption)]; unfold p_11; first | (rw [ho_20]; exact mFo.n) | (rw [b_n ho_20]; exact mFo.n)))⟩ dX8_reckons_190
        | some z_20 =>
          rw [ho_20] at hm_20
          have hm_20 : r_20 = 1 ∧ (h_20, d_20) = z_20 := hm_20
          obtain ⟨e3, e4⟩ := hm_20
          subst e3; subst e4
          have ok_20 : okP (h_20, d_20) := ok_popL ok _ ho_20
          refine lv_if_eq (tgt := 189) hx hb dX8_reckons_171 (by decide) (fun h => absurd h (by decide)) (fun _ => ?_)
          refine lv_aload_n hx hb dX8_reckons_174 rfl (lv_at hl 1 rfl) ?_
          refine s_get (a := 0) (b := 7) (ci := 6) X hw rfl rfl gX8 0 (by decide) fl_X8_10 rfl rfl dX8_reckons_175 ?_
          refine lv_iconst (v := 1) hx hb dX8_reckons_178 (by decide) ?_
          refine m_calli (m_runV (i := nm 0 8) (ci := 4) (As := [.int 1]) (rest := []) X (k_F6_push Γ l L x 0 8 h_20 d_20 1 pO8 (by omega)) v_X6_push ml_X8_74 hw hS (p_obj Γ L (c := sP x 0 8 (h_20, d_20)) pO8) rfl rfl rfl hl.1 ⟨Nat.le_of_ble_eq_true rfl, Nat.le_of_ble_eq_true rfl⟩ (Nat.le_of_ble_eq_true rfl) ⟨Nat.le_of_ble_eq_true rfl, Nat.le_of_ble_eq_true rfl⟩ dX8_reckons_179) hS (fun r_23 L1 M1 H locs hp_23 hw hS => ?_)
          obtain ⟨⟨h_23, d_23⟩, hd_23, e1, e2, hm_23⟩ := hp_23
          have hd_23 : d_23 ≤ 8 := hd_23
          rw [e1, e2] at hw; clear e1 e2
          have hm_23 : mFo (p_push (h_20, d_20) 1) r_23 (h_23, d_23) := hm_23
          cases ho_23 : p_push (h_20, d_20) 1 with
          | none =>
            rw [ho_23] at hm_23
            have hm_23 : r_23 = 0 := hm_23
            subst hm_23
            refine lv_if_eq (tgt := 189) hx hb dX8_reckons_182 (by decide) (fun _ => ?_) (fun h => absurd rfl h)
            refine lv_iconst (v := 0) hx hb dX8_reckons_189 (by decide) ?_
            exact m_zret (b := false) X hr hlk hw hS (Nat.le_of_ble_eq_true rfl) (Nat.le_of_ble_eq_true rfl) rfl ⟨(h_23, d_23), by show d_23 ≤ 8; omega, rfl, rfl, (by first | (refine (fun (e9 : o = 7) => ?_) (by assumption); subst e9; show mFo (p_7 v (h, d)) _ _; unfold p_7; rw [if_pos (rin_t (by assumption) (by assumption))]; first | (rw [b_s ho_20, ho_23]; exact mFo.n) | (rw [b_s ho_20, b_n ho_23]; exact mFo.n)) | (refine (fun (e9 : o = 8) => ?_) (by assumption); subst e9; show mFo (p_8 v (h, d)) _ _; unfold p_8; rw [if_pos (rin_t (by assumption) (by assumption))]; first | (rw [b_s ho_20, ho_23]; exact mFo.n) | (rw [b_s ho_20, b_n ho_23]; exact mFo.n)) | (refine (fun (e9 : o = 9) => ?_) (by assumption); subst e9; show mFo (p_9 (h, d)) _ _; unfold p_9; first | (rw [b_s ho_20, ho_23]; exact mFo.n) | (rw [b_s ho_20, b_n ho_23]; exact mFo.n)) | (refine (fun (e9 : o = 10) => ?_) (by assumption); subst e9; show mFo (p_10 (h, d)) _ _; unfold p_10; first | (rw [b_s ho_20, ho_23]; exact mFo.n) | (rw [b_s ho_20, b_n ho_23]; exact mFo.n)) | (rw [f_rec_d (by assumption)]; unfold p_11; first | (rw [b_s ho_20, ho_23]; exact mFo.n) | (rw [b_s ho_20, b_n ho_23]; exact mFo.n)))⟩ dX8_reckons_190
          | some z_23 =>
            rw [ho_23] at hm_23
            have hm_23 : r_23 = 1 ∧ (h_23, d_23) = z_23 := hm_23
            obtain ⟨e3, e4⟩ := hm_23
            subst e3; subst e4
            refine lv_if_eq (tgt := 189) hx hb dX8_reckons_182 (by decide) (fun h => absurd h (by decide)) (fun _ => ?_)
            refine lv_iconst (v := 1) hx hb dX8_reckons_185 (by decide) ?_
            refine lv_goto (tgt := 190) hx hb dX8_reckons_186 (by decide) ?_
            exact m_zret (b := true) X hr hlk hw hS (Nat.le_of_ble_eq_true rfl) (Nat.le_of_ble_eq_true rfl) rfl ⟨(h_23, d_23), by show d_23 ≤ 8; omega, rfl, rfl, (by first | (refine (fun (e9 : o = 7) => ?_) (by assumption); subst e9; show mFo (p_7 v (h, d)) _ _; unfold p_7; rw [if_pos (rin_t (by assumption) (by assumption))]; first | (rw [b_s ho_20, ho_23]; exact mFo.s) | (rw [b_s ho_20, b_s ho_23]; exact mFo.s)) | (refine (fun (e9 : o = 8) => ?_) (by assumption); subst e9; show mFo (p_8 v (h, d)) _ _; unfold p_8; rw [if_pos (rin_t (by assumption) (by assumption))]; first | (rw [b_s ho_20, ho_23]; exact mFo.s) | (rw [b_s ho_20, b_s ho_23]; exact mFo.s)) | (refine (fun (e9 : o = 9) => ?_) (by assumption); subst e9; show mFo (p_9 (h, d)) _ _; unfold p_9; first | (rw [b_s ho_20, ho_23]; exact mFo.s) | (rw [b_s ho_20, b_s ho_23]; exact mFo.s)) | (refine (fun (e9 : o = 10) => ?_) (by assumption); subst e9; show mFo (p_10 (h, d)) _ _; unfold p_10; first | (rw [b_s ho_20, ho_23]; exact mFo.s) | (rw [b_s ho_20, b_s ho_23]; exact mFo.s)) | (rw [f_rec_d (by assumption)]; unfold p_11; first | (rw [b_s ho_20, ho_23]; exact mFo.s) | (rw [b_s ho_20, b_s ho_23]; exact mFo.s)))⟩ dX8_reckons_190
  · skip
    refine lv_lload_n hx hb dX8_reckons_6 rfl (lv_at hl 2 rfl) ?_
    refine lv_ldc2 (v := (4)) hx hb X.1.2.2.2.1 (X.1.2.2.2.2 _ kl_X8_113) dX8_reckons_7 ?_
    refine m_lcmp_gt (tgt := 18) hx hb dX8_reckons_10 dX8_reckons_11 (by decide) (fun c_26 => ?_) (fun c_26 => ?_)
    · skip
      refine lv_iconst (v := 0) hx hb dX8_reckons_18 (by decide) ?_
      refine lv_istore (lv' := [(4, .int 0), (0, .ref (L (nm 0 7))), (1, .int o), (2, .long v)]) hx hb dX8_reckons_19 hl (by decide) rfl (fun ls hl => ?_)
      refine lv_iload_n hx hb dX8_reckons_21 rfl (lv_at hl 2 rfl) ?_
      by_cases c_27 : o.toInt < 7 ∨ 10 < o.toInt
      · refine lv_tableOut (tgt := 191) hx hb dX8_reckons_22 c_27 (by decide) ?_
        refine lv_aload_n hx hb dX8_reckons_191 rfl (lv_at hl 1 rfl) ?_
        refine s_get (a := 0) (b := 7) (ci := 6) X hw rfl rfl gX8 0 (by decide) fl_X8_10 rfl rfl dX8_reckons_192 ?_
        refine m_calli (m_runV (i := nm 0 8) (ci := 4) (As := []) (rest := []) X (k_F6_popLong Γ l L x 0 8 h d  pO8 (by omega)) v_X6_popLong ml_X8_106 hw hS (p_obj Γ L (c := sP x 0 8 (h, d)) pO8) rfl rfl rfl hl.1 ⟨Nat.le_of_ble_eq_true rfl, Nat.le_of_ble_eq_true rfl⟩ (Nat.le_of_ble_eq_true rfl) ⟨Nat.le_of_ble_eq_true rfl, Nat.le_of_ble_eq_true rfl⟩ dX8_reckons_195) hS (fun r_28 L1 M1 H locs hp_28 hw hS => ?_)
        obtain ⟨⟨h_28, d_28⟩, hd_28, e1, e2, hm_28⟩ := hp_28
        have hd_28 : d_28 ≤ 8 := hd_28
        rw [e1, e2] at hw; clear e1 e2
        have hm_28 : mFo (p_popL (h, d)) r_28 (h_28, d_28) := hm_28
        cases ho_28 : p_popL (h, d) with
        | none =>
          rw [ho_28] at hm_28
          have hm_28 : r_28 = 0 := hm_28
          subst hm_28
          refine lv_if_eq (tgt := 226) hx hb dX8_reckons_198 (by decide) (fun _ => ?_) (fun h => absurd rfl h)
          refine lv_iconst (v := 0) hx hb dX8_reckons_226 (by decide) ?_
          exact m_zret (b := false) X hr hlk hw hS (Nat.le_of_ble_eq_true rfl) (Nat.le_of_ble_eq_true rfl) rfl ⟨(h_28, d_28), by show d_28 ≤ 8; omega, rfl, rfl, (by first | (refine (fun (e9 : o = 7) => ?_) (by assumption); subst e9; show mFo (p_7 v (h, d)) _ _; unfold p_7; rw [if_pos (rin_t (by assumption) (by assumption))]; first | (rw [ho_28]; exact mFo.n) | (rw [b_n ho_28]; exact mFo.n)) | (refine (fun (e9 : o = 8) => ?_) (by assumption); subst e9; show mFo (p_8 v (h, d)) _ _; unfold p_8; rw [if_pos (rin_t (by assumption) (by assumption))]; first | (rw [ho_28]; exact mFo.n) | (rw [b_n ho_28]; exact mFo.n)) | (refine (fun (e9 : o = 9) => ?_) (by assumption); subst e9; show mFo (p_9 (h, d)) _ _; unfold p_9; first | (rw [ho_28]; exact mFo.n) | (rw [b_n ho_28]; exact mFo.n)) | (refine (fun (e9 : o = 10) => ?_) (by assumption); subst e9; show mFo (p_10 (h, d)) _ _; unfold p_10; first | (rw [ho_28]; exact mFo.n) | (rw [b_n ho_28]; exact mFo.n)) | (rw [f_rec_d (by assumption)]; unfold p_11; first | (rw [ho_28]; exact mFo.n) | (rw [b_n ho_28]; exact mFo.n)))⟩ dX8_reckons_227
        | some z_28 =>
          rw [ho_28] at hm_28
          have hm_28 : r_28 = 1 ∧ (h_28, d_28) = z_28 := hm_28
          obtain ⟨e3, e4⟩ := hm_28
          subst e3; subst e4
          have ok_28 : okP (h_28, d_28) := ok_popL ok _ ho_28
          refine lv_if_eq (tgt := 226) hx hb dX8_reckons_198 (by decide) (fun h => absurd h (by decide)) (fun _ => ?_)
          refine lv_aload_n hx hb dX8_reckons_201 rfl (lv_at hl 1 rfl) ?_
          refine s_get (a := 0) (b := 7) (ci := 6) X hw rfl rfl gX8 0 (by decide) fl_X8_10 rfl rfl dX8_reckons_202 ?_
          refine m_calli (m_runV (i := nm 0 8) (ci := 4) (As := []) (rest := []) X (k_F6_popLong Γ l L x 0 8 h_28 d_28  pO8 (by omega)) v_X6_popLong ml_X8_106 hw hS (p_obj Γ L (c := sP x 0 8 (h_28, d_28)) pO8) rfl rfl rfl hl.1 ⟨Nat.le_of_ble_eq_true rfl, Nat.le_of_ble_eq_true rfl⟩ (Nat.le_of_ble_eq_true rfl) ⟨Nat.le_of_ble_eq_true rfl, Nat.le_of_ble_eq_true rfl⟩ dX8_reckons_205) hS (fun r_31 L1 M1 H locs hp_31 hw hS => ?_)
          obtain ⟨⟨h_31, d_31⟩, hd_31, e1, e2, hm_31⟩ := hp_31
          have hd_31 : d_31 ≤ 8 := hd_31
          rw [e1, e2] at hw; clear e1 e2
          have hm_31 : mFo (p_popL (h_28, d_28)) r_31 (h_31, d_31) := hm_31
          cases ho_31 : p_popL (h_28, d_28) with
          | none =>
            rw [ho_31] at hm_31
            have hm_31 : r_31 = 0 := hm_31
            subst hm_31
            refine lv_if_eq (tgt := 226) hx hb dX8_reckons_208 (by decide) (fun _ => ?_) (fun h => absurd rfl h)
            refine lv_iconst (v := 0) hx hb dX8_reckons_226 (by decide) ?_
            exact m_zret (b := false) X hr hlk hw hS (Nat.le_of_ble_eq_true rfl) (Nat.le_of_ble_eq_true rfl) rfl ⟨(h_31, d_31), by show d_31 ≤ 8; omega, rfl, rfl, (by first | (refine (fun (e9 : o = 7) => ?_) (by assumption); subst e9; show mFo (p_7 v (h, d)) _ _; unfold p_7; rw [if_pos (rin_t (by assumption) (by assumption))]; first | (rw [b_s ho_28, ho_31]; exact mFo.n) | (rw [b_s ho_28, b_n ho_31]; exact mFo.n)) | (refine (fun (e9 : o = 8) => ?_) (by assumption); subst e9; show mFo (p_8 v (h, d)) _ _; unfold p_8; rw [if_pos (rin_t (by assumption) (by assumption))]; first | (rw [b_s ho_28, ho_31]; exact mFo.n) | (rw [b_s ho_28, b_n ho_31]; exact mFo.n)) | (refine (fun (e9 : o = 9) => ?_) (by assumption); subst e9; show mFo (p_9 (h, d)) _ _; unfold p_9; first | (rw [b_s ho_28, ho_31]; exact mFo.n) | (rw [b_s ho_28, b_n ho_31]; exact mFo.n)) | (refine (fun (e9 : o = 10) => ?_) (by assumption); subst e9; show mFo (p_10 (h, d)) _ _; unfold p_10; first | (rw [b_s ho_28, ho_31]; exact mFo.n) | (rw [b_s ho_28, b_n ho_31]; exact mFo.n)) | (rw [f_rec_d (by assumption)]; unfold p_11; first | (rw [b_s ho_28, ho_31]; exact mFo.n) | (rw [b_s ho_28, b_n ho_31]; exact mFo.n)))⟩ dX8_reckons_227
          | some z_31 =>
            rw [ho_31] at hm_31
            have hm_31 : r_31 = 1 ∧ (h_31, d_31) = z_31 := hm_31
            obtain ⟨e3, e4⟩ := hm_31
            subst e3; subst e4
            have ok_31 : okP (h_31, d_31) := ok_popL ok_28 _ ho_31
            refine lv_if_eq (tgt := 226) hx hb dX8_reckons_208 (by decide) (fun h => absurd h (by decide)) (fun _ => ?_)
            refine lv_aload_n hx hb dX8_reckons_211 rfl (lv_at hl 1 rfl) ?_
            refine s_get (a := 0) (b := 7) (ci := 6) X hw rfl rfl gX8 0 (by decide) fl_X8_10 rfl rfl dX8_reckons_212 ?_
            refine lv_iconst (v := 1) hx hb dX8_reckons_215 (by decide) ?_
            refine m_calli (m_runV (i := nm 0 8) (ci := 4) (As := [.int 1]) (rest := []) X (k_F6_push Γ l L x 0 8 h_31 d_31 1 pO8 (by omega)) v_X6_push ml_X8_74 hw hS (p_obj Γ L (c := sP x 0 8 (h_31, d_31)) pO8) rfl rfl rfl hl.1 ⟨Nat.le_of_ble_eq_true rfl, Nat.le_of_ble_eq_true rfl⟩ (Nat.le_of_ble_eq_true rfl) ⟨Nat.le_of_ble_eq_true rfl, Nat.le_of_ble_eq_true rfl⟩ dX8_reckons_216) hS (fun r_34 L1 M1 H locs hp_34 hw hS => ?_)
            obtain ⟨⟨h_34, d_34⟩, hd_34, e1, e2, hm_34⟩ := hp_34
            have hd_34 : d_34 ≤ 8 := hd_34
            rw [e1, e2] at hw; clear e1 e2
            have hm_34 : mFo (p_push (h_31, d_31) 1) r_34 (h_34, d_34) := hm_34
            cases ho_34 : p_push (h_31, d_31) 1 with
            | none =>
              rw [ho_34] at hm_34
              have hm_34 : r_34 = 0 := hm_34
              subst hm_34
              refine lv_if_eq (tgt := 226) hx hb dX8_reckons_219 (by decide) (fun _ => ?_) (fun h => absurd rfl h)
              refine lv_iconst (v := 0) hx hb dX8_reckons_226 (by decide) ?_
              exact m_zret (b := false) X hr hlk hw hS (Nat.le_of_ble_eq_true rfl) (Nat.le_of_ble_eq_true rfl) rfl ⟨(h_34, d_34), by show d_34 ≤ 8; omega, rfl, rfl, (by first | (refine (fun (e9 : o = 7) => ?_) (by assumption); subst e9; show mFo (p_7 v (h, d)) _ _; unfold p_7; rw [if_pos (rin_t (by assumption) (by assumption))]; first | (rw [b_s ho_28, b_s ho_31, ho_34]; exact mFo.n) | (rw [b_s ho_28, b_s ho_31, b_n ho_34]; exact mFo.n)) | (refine (fun (e9 : o = 8) => ?_) (by assumption); subst e9; show mFo (p_8 v (h, d)) _ _; unfold p_8; rw [if_pos (rin_t (by assumption) (by assumption))]; first | (rw [b_s ho_28, b_s ho_31, ho_34]; exact mFo.n) | (rw [b_s ho_28, b_s ho_31, b_n ho_34]; exact mFo.n)) | (refine (fun (e9 : o = 9) => ?_) (by assumption); subst e9; show mFo (p_9 (h, d)) _ _; unfold p_9; first | (rw [b_s ho_28, b_s ho_31, ho_34]; exact mFo.n) | (rw [b_s ho_28, b_s ho_31, b_n ho_34]; exact mFo.n)) | (refine (fun (e9 : o = 10) => ?_) (by assumption); subst e9; show mFo (p_10 (h, d)) _ _; unfold p_10; first | (rw [b_s ho_28, b_s ho_31, ho_34]; exact mFo.n) | (rw [b_s ho_28, b_s ho_31, b_n ho_34]; exact mFo.n)) | (rw [f_rec_d (by assumption)]; unfold p_11; first | (rw [b_s ho_28, b_s ho_31, ho_34]; exact mFo.n) | (rw [b_s ho_28, b_s ho_31, b_n ho_34]; exact mFo.n)))⟩ dX8_reckons_227
            | some z_34 =>
              rw [ho_34] at hm_34
              have hm_34 : r_34 = 1 ∧ (h_34, d_34) = z_34 := hm_34
              obtain ⟨e3, e4⟩ := hm_34
              subst e3; subst e4
              refine lv_if_eq (tgt := 226) hx hb dX8_reckons_219 (by decide) (fun h => absurd h (by decide)) (fun _ => ?_)
              refine lv_iconst (v := 1) hx hb dX8_reckons_222 (by decide) ?_
              refine lv_goto (tgt := 227) hx hb dX8_reckons_223 (by decide) ?_
              exact m_zret (b := true) X hr hlk hw hS (Nat.le_of_ble_eq_true rfl) (Nat.le_of_ble_eq_true rfl) rfl ⟨(h_34, d_34), by show d_34 ≤ 8; omega, rfl, rfl, (by first | (refine (fun (e9 : o = 7) => ?_) (by assumption); subst e9; show mFo (p_7 v (h, d)) _ _; unfold p_7; rw [if_pos (rin_t (by assumption) (by assumption))]; first | (rw [b_s ho_28, b_s ho_31, ho_34]; exact mFo.s) | (rw [b_s ho_28, b_s ho_31, b_s ho_34]; exact mFo.s)) | (refine (fun (e9 : o = 8) => ?_) (by assumption); subst e9; show mFo (p_8 v (h, d)) _ _; unfold p_8; rw [if_pos (rin_t (by assumption) (by assumption))]; first | (rw [b_s ho_28, b_s ho_31, ho_34]; exact mFo.s) | (rw [b_s ho_28, b_s ho_31, b_s ho_34]; exact mFo.s)) | (refine (fun (e9 : o = 9) => ?_) (by assumption); subst e9; show mFo (p_9 (h, d)) _ _; unfold p_9; first | (rw [b_s ho_28, b_s ho_31, ho_34]; exact mFo.s) | (rw [b_s ho_28, b_s ho_31, b_s ho_34]; exact mFo.s)) | (refine (fun (e9 : o = 10) => ?_) (by assumption); subst e9; show mFo (p_10 (h, d)) _ _; unfold p_10; first | (rw [b_s ho_28, b_s ho_31, ho_34]; exact mFo.s) | (rw [b_s ho_28, b_s ho_31, b_s ho_34]; exact mFo.s)) | (rw [f_rec_d (by assumption)]; unfold p_11; first | (rw [b_s ho_28, b_s ho_31, ho_34]; exact mFo.s) | (rw [b_s ho_28, b_s ho_31, b_s ho_34]; exact mFo.s)))⟩ dX8_reckons_227
      · have c_27b : o.toInt = 7 ∨ o.toInt = 8 ∨ o.toInt = 9 ∨ o.toInt = 10 := by omega
        rcases c_27b with c_27v | c_27v | c_27v | c_27v
        · have c_27e : o = 7 := Int32.toInt_inj.mp c_27v
          refine lv_tableIn (off := 30) (tgt := 52) hx hb dX8_reckons_22 (by omega) (by omega) (by rw [c_27v]; rfl) (by decide) ?_
          refine lv_iload hx hb dX8_reckons_52 (lv_at hl 0 rfl) ?_
          refine lv_if_eq (tgt := 94) hx hb dX8_reckons_54 (by decide) (fun c_37 => ?_) (fun c_37 => ?_)
          · skip
            have c_37n : 0 = 0 := neqT (a := 0) (b := 0) rfl rfl (by omega) (by omega) c_37
            refine lv_iconst (v := 0) hx hb dX8_reckons_94 (by decide) ?_
            exact m_zret (b := false) X hr hlk hw hS (Nat.le_of_ble_eq_true rfl) (Nat.le_of_ble_eq_true rfl) rfl ⟨(h, d), by show d ≤ 8; omega, rfl, rfl, (by first | (refine (fun (e9 : o = 7) => ?_) (by assumption); subst e9; show mFo (p_7 v (h, d)) _ _; unfold p_7; rw [if_neg (by first | exact rin_f1 (by assumption) | exact rin_f2 (by assumption))]; exact mFo.n) | (refine (fun (e9 : o = 8) => ?_) (by assumption); subst e9; show mFo (p_8 v (h, d)) _ _; unfold p_8; rw [if_neg (by first | exact rin_f1 (by assumption) | exact rin_f2 (by assumption))]; exact mFo.n))⟩ dX8_reckons_95
          · skip
            exact absurd c_37 (by decide)
        · have c_27e : o = 8 := Int32.toInt_inj.mp c_27v
          refine lv_tableIn (off := 74) (tgt := 96) hx hb dX8_reckons_22 (by omega) (by omega) (by rw [c_27v]; rfl) (by decide) ?_
          refine lv_iload hx hb dX8_reckons_96 (lv_at hl 0 rfl) ?_
          refine lv_if_eq (tgt := 135) hx hb dX8_reckons_98 (by decide) (fun c_38 => ?_) (fun c_38 => ?_)
          · skip
            have c_38n : 0 = 0 := neqT (a := 0) (b := 0) rfl rfl (by omega) (by omega) c_38
            refine lv_iconst (v := 0) hx hb dX8_reckons_135 (by decide) ?_
            exact m_zret (b := false) X hr hlk hw hS (Nat.le_of_ble_eq_true rfl) (Nat.le_of_ble_eq_true rfl) rfl ⟨(h, d), by show d ≤ 8; omega, rfl, rfl, (by first | (refine (fun (e9 : o = 7) => ?_) (by assumption); subst e9; show mFo (p_7 v (h, d)) _ _; unfold p_7; rw [if_neg (by first | exact rin_f1 (by assumption) | exact rin_f2 (by assumption))]; exact mFo.n) | (refine (fun (e9 : o = 8) => ?_) (by assumption); subst e9; show mFo (p_8 v (h, d)) _ _; unfold p_8; rw [if_neg (by first | exact rin_f1 (by assumption) | exact rin_f2 (by assumption))]; exact mFo.n))⟩ dX8_reckons_136
          · skip
            exact absurd c_38 (by decide)
        · have c_27e : o = 9 := Int32.toInt_inj.mp c_27v
          refine lv_tableIn (off := 115) (tgt := 137) hx hb dX8_reckons_22 (by omega) (by omega) (by rw [c_27v]; rfl) (by decide) ?_
          refine lv_aload_n hx hb dX8_reckons_137 rfl (lv_at hl 1 rfl) ?_
          refine s_get (a := 0) (b := 7) (ci := 6) X hw rfl rfl gX8 0 (by decide) fl_X8_10 rfl rfl dX8_reckons_138 ?_
          refine lv_iconst (v := 1) hx hb dX8_reckons_141 (by decide) ?_
          refine m_calli (m_runV (i := nm 0 8) (ci := 4) (As := [.int 1]) (rest := []) X (k_F6_pop Γ l L x 0 8 h d 1 pO8 (by omega) ok (by decide) (by decide)) v_X6_pop ml_X8_115 hw hS (p_obj Γ L (c := sP x 0 8 (h, d)) pO8) rfl rfl rfl hl.1 ⟨Nat.le_of_ble_eq_true rfl, Nat.le_of_ble_eq_true rfl⟩ (Nat.le_of_ble_eq_true rfl) ⟨Nat.le_of_ble_eq_true rfl, Nat.le_of_ble_eq_true rfl⟩ dX8_reckons_142) hS (fun r_39 L1 M1 H locs hp_39 hw hS => ?_)
          obtain ⟨⟨h_39, d_39⟩, hd_39, e1, e2, hm_39, hz_39⟩ := hp_39
          have hd_39 : d_39 ≤ 8 := hd_39
          rw [e1, e2] at hw; clear e1 e2
          have hm_39 : mFo (p_pop (h, d) 1) r_39 (h_39, d_39) := hm_39
          cases ho_39 : p_pop (h, d) 1 with
          | none =>
            rw [ho_39] at hm_39
            have hm_39 : r_39 = 0 := hm_39
            subst hm_39
            have hw : mW Γ.1 vwCl A L (cM Γ L (sP x 0 8 (h, d))) H := by rw [hz_39 ho_39] at hw; exact hw
            refine lv_if_eq (tgt := 162) hx hb dX8_reckons_145 (by decide) (fun _ => ?_) (fun h => absurd rfl h)
            refine lv_iconst (v := 0) hx hb dX8_reckons_162 (by decide) ?_
            exact m_zret (b := false) X hr hlk hw hS (Nat.le_of_ble_eq_true rfl) (Nat.le_of_ble_eq_true rfl) rfl ⟨(h, d), by show d ≤ 8; omega, rfl, rfl, (by first | (refine (fun (e9 : o = 7) => ?_) (by assumption); subst e9; show mFo (p_7 v (h, d)) _ _; unfold p_7; rw [if_pos (rin_t (by assumption) (by assumption))]; first | (rw [ho_39]; exact mFo.n) | (rw [b_n ho_39]; exact mFo.n)) | (refine (fun (e9 : o = 8) => ?_) (by assumption); subst e9; show mFo (p_8 v (h, d)) _ _; unfold p_8; rw [if_pos (rin_t (by assumption) (by assumption))]; first | (rw [ho_39]; exact mFo.n) | (rw [b_n ho_39]; exact mFo.n)) | (refine (fun (e9 : o = 9) => ?_) (by assumption); subst e9; show mFo (p_9 (h, d)) _ _; unfold p_9; first | (rw [ho_39]; exact mFo.n) | (rw [b_n ho_39]; exact mFo.n)) | (refine (fun (e9 : o = 10) => ?_) (by assumption); subst e9; show mFo (p_10 (h, d)) _ _; unfold p_10; first | (rw [ho_39]; exact mFo.n) | (rw [b_n ho_39]; exact mFo.n)) | (rw [f_rec_d (by assumption)]; unfold p_11; first | (rw [ho_39]; exact mFo.n) | (rw [b_n ho_39]; exact mFo.n)))⟩ dX8_reckons_163
          | some z_39 =>
            rw [ho_39] at hm_39
            have hm_39 : r_39 = 1 ∧ (h_39, d_39) = z_39 := hm_39
            obtain ⟨e3, e4⟩ := hm_39
            subst e3; subst e4
            have ok_39 : okP (h_39, d_39) := ok_pop ok _ ho_39
            refine lv_if_eq (tgt := 162) hx hb dX8_reckons_145 (by decide) (fun h => absurd h (by decide)) (fun _ => ?_)
            refine lv_aload_n hx hb dX8_reckons_148 rfl (lv_at hl 1 rfl) ?_
            refine s_get (a := 0) (b := 7) (ci := 6) X hw rfl rfl gX8 0 (by decide) fl_X8_10 rfl rfl dX8_reckons_149 ?_
            refine m_calli (m_runV (i := nm 0 8) (ci := 4) (As := []) (rest := []) X (k_F6_pushLong Γ l L x 0 8 h_39 d_39  pO8 (by omega)) v_X6_pushLong ml_X8_77 hw hS (p_obj Γ L (c := sP x 0 8 (h_39, d_39)) pO8) rfl rfl rfl hl.1 ⟨Nat.le_of_ble_eq_true rfl, Nat.le_of_ble_eq_true rfl⟩ (Nat.le_of_ble_eq_true rfl) ⟨Nat.le_of_ble_eq_true rfl, Nat.le_of_ble_eq_true rfl⟩ dX8_reckons_152) hS (fun r_42 L1 M1 H locs hp_42 hw hS => ?_)
            obtain ⟨⟨h_42, d_42⟩, hd_42, e1, e2, hm_42⟩ := hp_42
            have hd_42 : d_42 ≤ 8 := hd_42
            rw [e1, e2] at hw; clear e1 e2
            have hm_42 : mFo (p_pushL (h_39, d_39)) r_42 (h_42, d_42) := hm_42
            cases ho_42 : p_pushL (h_39, d_39) with
            | none =>
              rw [ho_42] at hm_42
              have hm_42 : r_42 = 0 := hm_42
              subst hm_42
              refine lv_if_eq (tgt := 162) hx hb dX8_reckons_155 (by decide) (fun _ => ?_) (fun h => absurd rfl h)
              refine lv_iconst (v := 0) hx hb dX8_reckons_162 (by decide) ?_
              exact m_zret (b := false) X hr hlk hw hS (Nat.le_of_ble_eq_true rfl) (Nat.le_of_ble_eq_true rfl) rfl ⟨(h_42, d_42), by show d_42 ≤ 8; omega, rfl, rfl, (by first | (refine (fun (e9 : o = 7) => ?_) (by assumption); subst e9; show mFo (p_7 v (h, d)) _ _; unfold p_7; rw [if_pos (rin_t (by assumption) (by assumption))]; first | (rw [b_s ho_39, ho_42]; exact mFo.n) | (rw [b_s ho_39, b_n ho_42]; exact mFo.n)) | (refine (fun (e9 : o = 8) => ?_) (by assumption); subst e9; show mFo (p_8 v (h, d)) _ _; unfold p_8; rw [if_pos (rin_t (by assumption) (by assumption))]; first | (rw [b_s ho_39, ho_42]; exact mFo.n) | (rw [b_s ho_39, b_n ho_42]; exact mFo.n)) | (refine (fun (e9 : o = 9) => ?_) (by assumption); subst e9; show mFo (p_9 (h, d)) _ _; unfold p_9; first | (rw [b_s ho_39, ho_42]; exact mFo.n) | (rw [b_s ho_39, b_n ho_42]; exact mFo.n)) | (refine (fun (e9 : o = 10) => ?_) (by assumption); subst e9; show mFo (p_10 (h, d)) _ _; unfold p_10; first | (rw [b_s ho_39, ho_42]; exact mFo.n) | (rw [b_s ho_39, b_n ho_42]; exact mFo.n)) | (rw [f_rec_d (by assumption)]; unfold p_11; first | (rw [b_s ho_39, ho_42]; exact mFo.n) | (rw [b_s ho_39, b_n ho_42]; exact mFo.n)))⟩ dX8_reckons_163
            | some z_42 =>
              rw [ho_42] at hm_42
              have hm_42 : r_42 = 1 ∧ (h_42, d_42) = z_42 := hm_42
              obtain ⟨e3, e4⟩ := hm_42
              subst e3; subst e4
              refine lv_if_eq (tgt := 162) hx hb dX8_reckons_155 (by decide) (fun h => absurd h (by decide)) (fun _ => ?_)
              refine lv_iconst (v := 1) hx hb dX8_reckons_158 (by decide) ?_
              refine lv_goto (tgt := 163) hx hb dX8_reckons_159 (by decide) ?_
              exact m_zret (b := true) X hr hlk hw hS (Nat.le_of_ble_eq_true rfl) (Nat.le_of_ble_eq_true rfl) rfl ⟨(h_42, d_42), by show d_42 ≤ 8; omega, rfl, rfl, (by first | (refine (fun (e9 : o = 7) => ?_) (by assumption); subst e9; show mFo (p_7 v (h, d)) _ _; unfold p_7; rw [if_pos (rin_t (by assumption) (by assumption))]; first | (rw [b_s ho_39, ho_42]; exact mFo.s) | (rw [b_s ho_39, b_s ho_42]; exact mFo.s)) | (refine (fun (e9 : o = 8) => ?_) (by assumption); subst e9; show mFo (p_8 v (h, d)) _ _; unfold p_8; rw [if_pos (rin_t (by assumption) (by assumption))]; first | (rw [b_s ho_39, ho_42]; exact mFo.s) | (rw [b_s ho_39, b_s ho_42]; exact mFo.s)) | (refine (fun (e9 : o = 9) => ?_) (by assumption); subst e9; show mFo (p_9 (h, d)) _ _; unfold p_9; first | (rw [b_s ho_39, ho_42]; exact mFo.s) | (rw [b_s ho_39, b_s ho_42]; exact mFo.s)) | (refine (fun (e9 : o = 10) => ?_) (by assumption); subst e9; show mFo (p_10 (h, d)) _ _; unfold p_10; first | (rw [b_s ho_39, ho_42]; exact mFo.s) | (rw [b_s ho_39, b_s ho_42]; exact mFo.s)) | (rw [f_rec_d (by assumption)]; unfold p_11; first | (rw [b_s ho_39, ho_42]; exact mFo.s) | (rw [b_s ho_39, b_s ho_42]; exact mFo.s)))⟩ dX8_reckons_163
        · have c_27e : o = 10 := Int32.toInt_inj.mp c_27v
          refine lv_tableIn (off := 142) (tgt := 164) hx hb dX8_reckons_22 (by omega) (by omega) (by rw [c_27v]; rfl) (by decide) ?_
          refine lv_aload_n hx hb dX8_reckons_164 rfl (lv_at hl 1 rfl) ?_
          refine s_get (a := 0) (b := 7) (ci := 6) X hw rfl rfl gX8 0 (by decide) fl_X8_10 rfl rfl dX8_reckons_165 ?_
          refine m_calli (m_runV (i := nm 0 8) (ci := 4) (As := []) (rest := []) X (k_F6_popLong Γ l L x 0 8 h d  pO8 (by omega)) v_X6_popLong ml_X8_106 hw hS (p_obj Γ L (c := sP x 0 8 (h, d)) pO8) rfl rfl rfl hl.1 ⟨Nat.le_of_ble_eq_true rfl, Nat.le_of_ble_eq_true rfl⟩ (Nat.le_of_ble_eq_true rfl) ⟨Nat.le_of_ble_eq_true rfl, Nat.le_of_ble_eq_true rfl⟩ dX8_reckons_168) hS (fun r_45 L1 M1 H locs hp_45 hw hS => ?_)
          obtain ⟨⟨h_45, d_45⟩, hd_45, e1, e2, hm_45⟩ := hp_45
          have hd_45 : d_45 ≤ 8 := hd_45
          rw [e1, e2] at hw; clear e1 e2
          have hm_45 : mFo (p_popL (h, d)) r_45 (h_45, d_45) := hm_45
          cases ho_45 : p_popL (h, d) with
          | none =>
            rw [ho_45] at hm_45
            have hm_45 : r_45 = 0 := hm_45
            subst hm_45
            refine lv_if_eq (tgt := 189) hx hb dX8_reckons_171 (by decide) (fun _ => ?_) (fun h => absurd rfl h)
            refine lv_iconst (v := 0) hx hb dX8_reckons_189 (by decide) ?_
            exact m_zret (b := false) X hr hlk hw hS (Nat.le_of_ble_eq_true rfl) (Nat.le_of_ble_eq_true rfl) rfl ⟨(h_45, d_45), by show d_45 ≤ 8; omega, rfl, rfl, (by first | (refine (fun (e9 : o = 7) => ?_) (by assumption); subst e9; show mFo (p_7 v (h, d)) _ _; unfold p_7; rw [if_pos (rin_t (by assumption) (by assumption))]; first | (rw [ho_45]; exact mFo.n) | (rw [b_n ho_45]; exact mFo.n)) | (refine (fun (e9 : o = 8) => ?_) (by assumption); subst e9; show mFo (p_8 v (h, d)) _ _; unfold p_8; rw [if_pos (rin_t (by assumption) (by assumption))]; first | (rw [ho_45]; exact mFo.n) | (rw [b_n ho_45]; exact mFo.n)) | (refine (fun (e9 : o = 9) => ?_) (by assumption); subst e9; show mFo (p_9 (h, d)) _ _; unfold p_9; first | (rw [ho_45]; exact mFo.n) | (rw [b_n ho_45]; exact mFo.n)) | (refine (fun (e9 : o = 10) => ?_) (by assumption); subst e9; show mFo (p_10 (h, d)) _ _; unfold p_10; first | (rw [ho_45]; exact mFo.n) | (rw [b_n ho_45]; exact mFo.n)) | (rw [f_rec_d (by assumption)]; unfold p_11; first | (rw [ho_45]; exact mFo.n) | (rw [b_n ho_45]; exact mFo.n)))⟩ dX8_reckons_190
          | some z_45 =>
            rw [ho_45] at hm_45
            have hm_45 : r_45 = 1 ∧ (h_45, d_45) = z_45 := hm_45
            obtain ⟨e3, e4⟩ := hm_45
            subst e3; subst e4
            have ok_45 : okP (h_45, d_45) := ok_popL ok _ ho_45
            refine lv_if_eq (tgt := 189) hx hb dX8_reckons_171 (by decide) (fun h => absurd h (by decide)) (fun _ => ?_)
            refine lv_aload_n hx hb dX8_reckons_174 rfl (lv_at hl 1 rfl) ?_
            refine s_get (a := 0) (b := 7) (ci := 6) X hw rfl rfl gX8 0 (by decide) fl_X8_10 rfl rfl dX8_reckons_175 ?_
            refine lv_iconst (v := 1) hx hb dX8_reckons_178 (by decide) ?_
            refine m_calli (m_runV (i := nm 0 8) (ci := 4) (As := [.int 1]) (rest := []) X (k_F6_push Γ l L x 0 8 h_45 d_45 1 pO8 (by omega)) v_X6_push ml_X8_74 hw hS (p_obj Γ L (c := sP x 0 8 (h_45, d_45)) pO8) rfl rfl rfl hl.1 ⟨Nat.le_of_ble_eq_true rfl, Nat.le_of_ble_eq_true rfl⟩ (Nat.le_of_ble_eq_true rfl) ⟨Nat.le_of_ble_eq_true rfl, Nat.le_of_ble_eq_true rfl⟩ dX8_reckons_179) hS (fun r_48 L1 M1 H locs hp_48 hw hS => ?_)
            obtain ⟨⟨h_48, d_48⟩, hd_48, e1, e2, hm_48⟩ := hp_48
            have hd_48 : d_48 ≤ 8 := hd_48
            rw [e1, e2] at hw; clear e1 e2
            have hm_48 : mFo (p_push (h_45, d_45) 1) r_48 (h_48, d_48) := hm_48
            cases ho_48 : p_push (h_45, d_45) 1 with
            | none =>
              rw [ho_48] at hm_48
              have hm_48 : r_48 = 0 := hm_48
              subst hm_48
              refine lv_if_eq (tgt := 189) hx hb dX8_reckons_182 (by decide) (fun _ => ?_) (fun h => absurd rfl h)
              refine lv_iconst (v := 0) hx hb dX8_reckons_189 (by decide) ?_
              exact m_zret (b := false) X hr hlk hw hS (Nat.le_of_ble_eq_true rfl) (Nat.le_of_ble_eq_true rfl) rfl ⟨(h_48, d_48), by show d_48 ≤ 8; omega, rfl, rfl, (by first | (refine (fun (e9 : o = 7) => ?_) (by assumption); subst e9; show mFo (p_7 v (h, d)) _ _; unfold p_7; rw [if_pos (rin_t (by assumption) (by assumption))]; first | (rw [b_s ho_45, ho_48]; exact mFo.n) | (rw [b_s ho_45, b_n ho_48]; exact mFo.n)) | (refine (fun (e9 : o = 8) => ?_) (by assumption); subst e9; show mFo (p_8 v (h, d)) _ _; unfold p_8; rw [if_pos (rin_t (by assumption) (by assumption))]; first | (rw [b_s ho_45, ho_48]; exact mFo.n) | (rw [b_s ho_45, b_n ho_48]; exact mFo.n)) | (refine (fun (e9 : o = 9) => ?_) (by assumption); subst e9; show mFo (p_9 (h, d)) _ _; unfold p_9; first | (rw [b_s ho_45, ho_48]; exact mFo.n) | (rw [b_s ho_45, b_n ho_48]; exact mFo.n)) | (refine (fun (e9 : o = 10) => ?_) (by assumption); subst e9; show mFo (p_10 (h, d)) _ _; unfold p_10; first | (rw [b_s ho_45, ho_48]; exact mFo.n) | (rw [b_s ho_45, b_n ho_48]; exact mFo.n)) | (rw [f_rec_d (by assumption)]; unfold p_11; first | (rw [b_s ho_45, ho_48]; exact mFo.n) | (rw [b_s ho_45, b_n ho_48]; exact mFo.n)))⟩ dX8_reckons_190
            | some z_48 =>
              rw [ho_48] at hm_48
              have hm_48 : r_48 = 1 ∧ (h_48, d_48) = z_48 := hm_48
              obtain ⟨e3, e4⟩ := hm_48
              subst e3; subst e4
              refine lv_if_eq (tgt := 189) hx hb dX8_reckons_182 (by decide) (fun h => absurd h (by decide)) (fun _ => ?_)
              refine lv_iconst (v := 1) hx hb dX8_reckons_185 (by decide) ?_
              refine lv_goto (tgt := 190) hx hb dX8_reckons_186 (by decide) ?_
              exact m_zret (b := true) X hr hlk hw hS (Nat.le_of_ble_eq_true rfl) (Nat.le_of_ble_eq_true rfl) rfl ⟨(h_48, d_48), by show d_48 ≤ 8; omega, rfl, rfl, (by first | (refine (fun (e9 : o = 7) => ?_) (by assumption); subst e9; show mFo (p_7 v (h, d)) _ _; unfold p_7; rw [if_pos (rin_t (by assumption) (by assumption))]; first | (rw [b_s ho_45, ho_48]; exact mFo.s) | (rw [b_s ho_45, b_s ho_48]; exact mFo.s)) | (refine (fun (e9 : o = 8) => ?_) (by assumption); subst e9; show mFo (p_8 v (h, d)) _ _; unfold p_8; rw [if_pos (rin_t (by assumption) (by assumption))]; first | (rw [b_s ho_45, ho_48]; exact mFo.s) | (rw [b_s ho_45, b_s ho_48]; exact mFo.s)) | (refine (fun (e9 : o = 9) => ?_) (by assumption); subst e9; show mFo (p_9 (h, d)) _ _; unfold p_9; first | (rw [b_s ho_45, ho_48]; exact mFo.s) | (rw [b_s ho_45, b_s ho_48]; exact mFo.s)) | (refine (fun (e9 : o = 10) => ?_) (by assumption); subst e9; show mFo (p_10 (h, d)) _ _; unfold p_10; first | (rw [b_s ho_45, ho_48]; exact mFo.s) | (rw [b_s ho_45, b_s ho_48]; exact mFo.s)) | (rw [f_rec_d (by assumption)]; unfold p_11; first | (rw [b_s ho_45, ho_48]; exact mFo.s) | (rw [b_s ho_45, b_s ho_48]; exact mFo.s)))⟩ dX8_reckons_190
    · skip
      refine lv_iconst (v := 1) hx hb dX8_reckons_14 (by decide) ?_
      refine lv_goto (tgt := 19) hx hb dX8_reckons_15 (by decide) ?_
      refine lv_istore (lv' := [(4, .int 1), (0, .ref (L (nm 0 7))), (1, .int o), (2, .long v)]) hx hb dX8_reckons_19 hl (by decide) rfl (fun ls hl => ?_)
      refine lv_iload_n hx hb dX8_reckons_21 rfl (lv_at hl 2 rfl) ?_
      by_cases c_51 : o.toInt < 7 ∨ 10 < o.toInt
      · refine lv_tableOut (tgt := 191) hx hb dX8_reckons_22 c_51 (by decide) ?_
        refine lv_aload_n hx hb dX8_reckons_191 rfl (lv_at hl 1 rfl) ?_
        refine s_get (a := 0) (b := 7) (ci := 6) X hw rfl rfl gX8 0 (by decide) fl_X8_10 rfl rfl dX8_reckons_192 ?_
        refine m_calli (m_runV (i := nm 0 8) (ci := 4) (As := []) (rest := []) X (k_F6_popLong Γ l L x 0 8 h d  pO8 (by omega)) v_X6_popLong ml_X8_106 hw hS (p_obj Γ L (c := sP x 0 8 (h, d)) pO8) rfl rfl rfl hl.1 ⟨Nat.le_of_ble_eq_true rfl, Nat.le_of_ble_eq_true rfl⟩ (Nat.le_of_ble_eq_true rfl) ⟨Nat.le_of_ble_eq_true rfl, Nat.le_of_ble_eq_true rfl⟩ dX8_reckons_195) hS (fun r_52 L1 M1 H locs hp_52 hw hS => ?_)
        obtain ⟨⟨h_52, d_52⟩, hd_52, e1, e2, hm_52⟩ := hp_52
        have hd_52 : d_52 ≤ 8 := hd_52
        rw [e1, e2] at hw; clear e1 e2
        have hm_52 : mFo (p_popL (h, d)) r_52 (h_52, d_52) := hm_52
        cases ho_52 : p_popL (h, d) with
        | none =>
          rw [ho_52] at hm_52
          have hm_52 : r_52 = 0 := hm_52
          subst hm_52
          refine lv_if_eq (tgt := 226) hx hb dX8_reckons_198 (by decide) (fun _ => ?_) (fun h => absurd rfl h)
          refine lv_iconst (v := 0) hx hb dX8_reckons_226 (by decide) ?_
          exact m_zret (b := false) X hr hlk hw hS (Nat.le_of_ble_eq_true rfl) (Nat.le_of_ble_eq_true rfl) rfl ⟨(h_52, d_52), by show d_52 ≤ 8; omega, rfl, rfl, (by first | (refine (fun (e9 : o = 7) => ?_) (by assumption); subst e9; show mFo (p_7 v (h, d)) _ _; unfold p_7; rw [if_pos (rin_t (by assumption) (by assumption))]; first | (rw [ho_52]; exact mFo.n) | (rw [b_n ho_52]; exact mFo.n)) | (refine (fun (e9 : o = 8) => ?_) (by assumption); subst e9; show mFo (p_8 v (h, d)) _ _; unfold p_8; rw [if_pos (rin_t (by assumption) (by assumption))]; first | (rw [ho_52]; exact mFo.n) | (rw [b_n ho_52]; exact mFo.n)) | (refine (fun (e9 : o = 9) => ?_) (by assumption); subst e9; show mFo (p_9 (h, d)) _ _; unfold p_9; first | (rw [ho_52]; exact mFo.n) | (rw [b_n ho_52]; exact mFo.n)) | (refine (fun (e9 : o = 10) => ?_) (by assumption); subst e9; show mFo (p_10 (h, d)) _ _; unfold p_10; first | (rw [ho_52]; exact mFo.n) | (rw [b_n ho_52]; exact mFo.n)) | (rw [f_rec_d (by assumption)]; unfold p_11; first | (rw [ho_52]; exact mFo.n) | (rw [b_n ho_52]; exact mFo.n)))⟩ dX8_reckons_227
        | some z_52 =>
          rw [ho_52] at hm_52
          have hm_52 : r_52 = 1 ∧ (h_52, d_52) = z_52 := hm_52
          obtain ⟨e3, e4⟩ := hm_52
          subst e3; subst e4
          have ok_52 : okP (h_52, d_52) := ok_popL ok _ ho_52
          refine lv_if_eq (tgt := 226) hx hb dX8_reckons_198 (by decide) (fun h => absurd h (by decide)) (fun _ => ?_)
          refine lv_aload_n hx hb dX8_reckons_201 rfl (lv_at hl 1 rfl) ?_
          refine s_get (a := 0) (b := 7) (ci := 6) X hw rfl rfl gX8 0 (by decide) fl_X8_10 rfl rfl dX8_reckons_202 ?_
          refine m_calli (m_runV (i := nm 0 8) (ci := 4) (As := []) (rest := []) X (k_F6_popLong Γ l L x 0 8 h_52 d_52  pO8 (by omega)) v_X6_popLong ml_X8_106 hw hS (p_obj Γ L (c := sP x 0 8 (h_52, d_52)) pO8) rfl rfl rfl hl.1 ⟨Nat.le_of_ble_eq_true rfl, Nat.le_of_ble_eq_true rfl⟩ (Nat.le_of_ble_eq_true rfl) ⟨Nat.le_of_ble_eq_true rfl, Nat.le_of_ble_eq_true rfl⟩ dX8_reckons_205) hS (fun r_55 L1 M1 H locs hp_55 hw hS => ?_)
          obtain ⟨⟨h_55, d_55⟩, hd_55, e1, e2, hm_55⟩ := hp_55
          have hd_55 : d_55 ≤ 8 := hd_55
          rw [e1, e2] at hw; clear e1 e2
          have hm_55 : mFo (p_popL (h_52, d_52)) r_55 (h_55, d_55) := hm_55
          cases ho_55 : p_popL (h_52, d_52) with
          | none =>
            rw [ho_55] at hm_55
            have hm_55 : r_55 = 0 := hm_55
            subst hm_55
            refine lv_if_eq (tgt := 226) hx hb dX8_reckons_208 (by decide) (fun _ => ?_) (fun h => absurd rfl h)
            refine lv_iconst (v := 0) hx hb dX8_reckons_226 (by decide) ?_
            exact m_zret (b := false) X hr hlk hw hS (Nat.le_of_ble_eq_true rfl) (Nat.le_of_ble_eq_true rfl) rfl ⟨(h_55, d_55), by show d_55 ≤ 8; omega, rfl, rfl, (by first | (refine (fun (e9 : o = 7) => ?_) (by assumption); subst e9; show mFo (p_7 v (h, d)) _ _; unfold p_7; rw [if_pos (rin_t (by assumption) (by assumption))]; first | (rw [b_s ho_52, ho_55]; exact mFo.n) | (rw [b_s ho_52, b_n ho_55]; exact mFo.n)) | (refine (fun (e9 : o = 8) => ?_) (by assumption); subst e9; show mFo (p_8 v (h, d)) _ _; unfold p_8; rw [if_pos (rin_t (by assumption) (by assumption))]; first | (rw [b_s ho_52, ho_55]; exact mFo.n) | (rw [b_s ho_52, b_n ho_55]; exact mFo.n)) | (refine (fun (e9 : o = 9) => ?_) (by assumption); subst e9; show mFo (p_9 (h, d)) _ _; unfold p_9; first | (rw [b_s ho_52, ho_55]; exact mFo.n) | (rw [b_s ho_52, b_n ho_55]; exact mFo.n)) | (refine (fun (e9 : o = 10) => ?_) (by assumption); subst e9; show mFo (p_10 (h, d)) _ _; unfold p_10; first | (rw [b_s ho_52, ho_55]; exact mFo.n) | (rw [b_s ho_52, b_n ho_55]; exact mFo.n)) | (rw [f_rec_d (by assumption)]; unfold p_11; first | (rw [b_s ho_52, ho_55]; exact mFo.n) | (rw [b_s ho_52, b_n ho_55]; exact mFo.n)))⟩ dX8_reckons_227
          | some z_55 =>
            rw [ho_55] at hm_55
            have hm_55 : r_55 = 1 ∧ (h_55, d_55) = z_55 := hm_55
            obtain ⟨e3, e4⟩ := hm_55
            subst e3; subst e4
            have ok_55 : okP (h_55, d_55) := ok_popL ok_52 _ ho_55
            refine lv_if_eq (tgt := 226) hx hb dX8_reckons_208 (by decide) (fun h => absurd h (by decide)) (fun _ => ?_)
            refine lv_aload_n hx hb dX8_reckons_211 rfl (lv_at hl 1 rfl) ?_
            refine s_get (a := 0) (b := 7) (ci := 6) X hw rfl rfl gX8 0 (by decide) fl_X8_10 rfl rfl dX8_reckons_212 ?_
            refine lv_iconst (v := 1) hx hb dX8_reckons_215 (by decide) ?_
            refine m_calli (m_runV (i := nm 0 8) (ci := 4) (As := [.int 1]) (rest := []) X (k_F6_push Γ l L x 0 8 h_55 d_55 1 pO8 (by omega)) v_X6_push ml_X8_74 hw hS (p_obj Γ L (c := sP x 0 8 (h_55, d_55)) pO8) rfl rfl rfl hl.1 ⟨Nat.le_of_ble_eq_true rfl, Nat.le_of_ble_eq_true rfl⟩ (Nat.le_of_ble_eq_true rfl) ⟨Nat.le_of_ble_eq_true rfl, Nat.le_of_ble_eq_true rfl⟩ dX8_reckons_216) hS (fun r_58 L1 M1 H locs hp_58 hw hS => ?_)
            obtain ⟨⟨h_58, d_58⟩, hd_58, e1, e2, hm_58⟩ := hp_58
            have hd_58 : d_58 ≤ 8 := hd_58
            rw [e1, e2] at hw; clear e1 e2
            have hm_58 : mFo (p_push (h_55, d_55) 1) r_58 (h_58, d_58) := hm_58
            cases ho_58 : p_push (h_55, d_55) 1 with
            | none =>
              rw [ho_58] at hm_58
              have hm_58 : r_58 = 0 := hm_58
              subst hm_58
              refine lv_if_eq (tgt := 226) hx hb dX8_reckons_219 (by decide) (fun _ => ?_) (fun h => absurd rfl h)
              refine lv_iconst (v := 0) hx hb dX8_reckons_226 (by decide) ?_
              exact m_zret (b := false) X hr hlk hw hS (Nat.le_of_ble_eq_true rfl) (Nat.le_of_ble_eq_true rfl) rfl ⟨(h_58, d_58), by show d_58 ≤ 8; omega, rfl, rfl, (by first | (refine (fun (e9 : o = 7) => ?_) (by assumption); subst e9; show mFo (p_7 v (h, d)) _ _; unfold p_7; rw [if_pos (rin_t (by assumption) (by assumption))]; first | (rw [b_s ho_52, b_s ho_55, ho_58]; exact mFo.n) | (rw [b_s ho_52, b_s ho_55, b_n ho_58]; exact mFo.n)) | (refine (fun (e9 : o = 8) => ?_) (by assumption); subst e9; show mFo (p_8 v (h, d)) _ _; unfold p_8; rw [if_pos (rin_t (by assumption) (by assumption))]; first | (rw [b_s ho_52, b_s ho_55, ho_58]; exact mFo.n) | (rw [b_s ho_52, b_s ho_55, b_n ho_58]; exact mFo.n)) | (refine (fun (e9 : o = 9) => ?_) (by assumption); subst e9; show mFo (p_9 (h, d)) _ _; unfold p_9; first | (rw [b_s ho_52, b_s ho_55, ho_58]; exact mFo.n) | (rw [b_s ho_52, b_s ho_55, b_n ho_58]; exact mFo.n)) | (refine (fun (e9 : o = 10) => ?_) (by assumption); subst e9; show mFo (p_10 (h, d)) _ _; unfold p_10; first | (rw [b_s ho_52, b_s ho_55, ho_58]; exact mFo.n) | (rw [b_s ho_52, b_s ho_55, b_n ho_58]; exact mFo.n)) | (rw [f_rec_d (by assumption)]; unfold p_11; first | (rw [b_s ho_52, b_s ho_55, ho_58]; exact mFo.n) | (rw [b_s ho_52, b_s ho_55, b_n ho_58]; exact mFo.n)))⟩ dX8_reckons_227
            | some z_58 =>
              rw [ho_58] at hm_58
              have hm_58 : r_58 = 1 ∧ (h_58, d_58) = z_58 := hm_58
              obtain ⟨e3, e4⟩ := hm_58
              subst e3; subst e4
              refine lv_if_eq (tgt := 226) hx hb dX8_reckons_219 (by decide) (fun h => absurd h (by decide)) (fun _ => ?_)
              refine lv_iconst (v := 1) hx hb dX8_reckons_222 (by decide) ?_
              refine lv_goto (tgt := 227) hx hb dX8_reckons_223 (by decide) ?_
              exact m_zret (b := true) X hr hlk hw hS (Nat.le_of_ble_eq_true rfl) (Nat.le_of_ble_eq_true rfl) rfl ⟨(h_58, d_58), by show d_58 ≤ 8; omega, rfl, rfl, (by first | (refine (fun (e9 : o = 7) => ?_) (by assumption); subst e9; show mFo (p_7 v (h, d)) _ _; unfold p_7; rw [if_pos (rin_t (by assumption) (by assumption))]; first | (rw [b_s ho_52, b_s ho_55, ho_58]; exact mFo.s) | (rw [b_s ho_52, b_s ho_55, b_s ho_58]; exact mFo.s)) | (refine (fun (e9 : o = 8) => ?_) (by assumption); subst e9; show mFo (p_8 v (h, d)) _ _; unfold p_8; rw [if_pos (rin_t (by assumption) (by assumption))]; first | (rw [b_s ho_52, b_s ho_55, ho_58]; exact mFo.s) | (rw [b_s ho_52, b_s ho_55, b_s ho_58]; exact mFo.s)) | (refine (fun (e9 : o = 9) => ?_) (by assumption); subst e9; show mFo (p_9 (h, d)) _ _; unfold p_9; first | (rw [b_s ho_52, b_s ho_55, ho_58]; exact mFo.s) | (rw [b_s ho_52, b_s ho_55, b_s ho_58]; exact mFo.s)) | (refine (fun (e9 : o = 10) => ?_) (by assumption); subst e9; show mFo (p_10 (h, d)) _ _; unfold p_10; first | (rw [b_s ho_52, b_s ho_55, ho_58]; exact mFo.s) | (rw [b_s ho_52, b_s ho_55, b_s ho_58]; exact mFo.s)) | (rw [f_rec_d (by assumption)]; unfold p_11; first | (rw [b_s ho_52, b_s ho_55, ho_58]; exact mFo.s) | (rw [b_s ho_52, b_s ho_55, b_s ho_58]; exact mFo.s)))⟩ dX8_reckons_227
      · have c_51b : o.toInt = 7 ∨ o.toInt = 8 ∨ o.toInt = 9 ∨ o.toInt = 10 := by omega
        rcases c_51b with c_51v | c_51v | c_51v | c_51v
        · have c_51e : o = 7 := Int32.toInt_inj.mp c_51v
          refine lv_tableIn (off := 30) (tgt := 52) hx hb dX8_reckons_22 (by omega) (by omega) (by rw [c_51v]; rfl) (by decide) ?_
          refine lv_iload hx hb dX8_reckons_52 (lv_at hl 0 rfl) ?_
          refine lv_if_eq (tgt := 94) hx hb dX8_reckons_54 (by decide) (fun c_61 => ?_) (fun c_61 => ?_)
          · skip
            exact absurd c_61 (by decide)
          · skip
            have c_61n : ¬ 1 = 0 := neqF (a := 1) (b := 0) rfl rfl (by omega) (by omega) c_61
            refine lv_aload_n hx hb dX8_reckons_57 rfl (lv_at hl 1 rfl) ?_
            refine s_get (a := 0) (b := 7) (ci := 6) X hw rfl rfl gX8 0 (by decide) fl_X8_10 rfl rfl dX8_reckons_58 ?_
            refine lv_iconst (v := 1) hx hb dX8_reckons_61 (by decide) ?_
            refine m_calli (m_runV (i := nm 0 8) (ci := 4) (As := [.int 1]) (rest := []) X (k_F6_pop Γ l L x 0 8 h d 1 pO8 (by omega) ok (by decide) (by decide)) v_X6_pop ml_X8_115 hw hS (p_obj Γ L (c := sP x 0 8 (h, d)) pO8) rfl rfl rfl hl.1 ⟨Nat.le_of_ble_eq_true rfl, Nat.le_of_ble_eq_true rfl⟩ (Nat.le_of_ble_eq_true rfl) ⟨Nat.le_of_ble_eq_true rfl, Nat.le_of_ble_eq_true rfl⟩ dX8_reckons_62) hS (fun r_62 L1 M1 H locs hp_62 hw hS => ?_)
            obtain ⟨⟨h_62, d_62⟩, hd_62, e1, e2, hm_62, hz_62⟩ := hp_62
            have hd_62 : d_62 ≤ 8 := hd_62
            rw [e1, e2] at hw; clear e1 e2
            have hm_62 : mFo (p_pop (h, d) 1) r_62 (h_62, d_62) := hm_62
            cases ho_62 : p_pop (h, d) 1 with
            | none =>
              rw [ho_62] at hm_62
              have hm_62 : r_62 = 0 := hm_62
              subst hm_62
              have hw : mW Γ.1 vwCl A L (cM Γ L (sP x 0 8 (h, d))) H := by rw [hz_62 ho_62] at hw; exact hw
              refine lv_if_eq (tgt := 94) hx hb dX8_reckons_65 (by decide) (fun _ => ?_) (fun h => absurd rfl h)
              refine lv_iconst (v := 0) hx hb dX8_reckons_94 (by decide) ?_
              exact m_zret (b := false) X hr hlk hw hS (Nat.le_of_ble_eq_true rfl) (Nat.le_of_ble_eq_true rfl) rfl ⟨(h, d), by show d ≤ 8; omega, rfl, rfl, (by first | (refine (fun (e9 : o = 7) => ?_) (by assumption); subst e9; show mFo (p_7 v (h, d)) _ _; unfold p_7; rw [if_pos (rin_t (by assumption) (by assumption))]; first | (rw [ho_62]; exact mFo.n) | (rw [b_n ho_62]; exact mFo.n)) | (refine (fun (e9 : o = 8) => ?_) (by assumption); subst e9; show mFo (p_8 v (h, d)) _ _; unfold p_8; rw [if_pos (rin_t (by assumption) (by assumption))]; first | (rw [ho_62]; exact mFo.n) | (rw [b_n ho_62]; exact mFo.n)) | (refine (fun (e9 : o = 9) => ?_) (by assumption); subst e9; show mFo (p_9 (h, d)) _ _; unfold p_9; first | (rw [ho_62]; exact mFo.n) | (rw [b_n ho_62]; exact mFo.n)) | (refine (fun (e9 : o = 10) => ?_) (by assumption); subst e9; show mFo (p_10 (h, d)) _ _; unfold p_10; first | (rw [ho_62]; exact mFo.n) | (rw [b_n ho_62]; exact mFo.n)) | (rw [f_rec_d (by assumption)]; unfold p_11; first | (rw [ho_62]; exact mFo.n) | (rw [b_n ho_62]; exact mFo.n)))⟩ dX8_reckons_95
            | some z_62 =>
              rw [ho_62] at hm_62
              have hm_62 : r_62 = 1 ∧ (h_62, d_62) = z_62 := hm_62
              obtain ⟨e3, e4⟩ := hm_62
              subst e3; subst e4
              have ok_62 : okP (h_62, d_62) := ok_pop ok _ ho_62
              refine lv_if_eq (tgt := 94) hx hb dX8_reckons_65 (by decide) (fun h => absurd h (by decide)) (fun _ => ?_)
              refine lv_aload_n hx hb dX8_reckons_68 rfl (lv_at hl 1 rfl) ?_
              refine s_get (a := 0) (b := 7) (ci := 6) X hw rfl rfl gX8 0 (by decide) fl_X8_10 rfl rfl dX8_reckons_69 ?_
              refine lv_iconst (v := 1) hx hb dX8_reckons_72 (by decide) ?_
              refine m_calli (m_runV (i := nm 0 8) (ci := 4) (As := [.int 1]) (rest := []) X (k_F6_pop Γ l L x 0 8 h_62 d_62 1 pO8 (by omega) ok_62 (by decide) (by decide)) v_X6_pop ml_X8_115 hw hS (p_obj Γ L (c := sP x 0 8 (h_62, d_62)) pO8) rfl rfl rfl hl.1 ⟨Nat.le_of_ble_eq_true rfl, Nat.le_of_ble_eq_true rfl⟩ (Nat.le_of_ble_eq_true rfl) ⟨Nat.le_of_ble_eq_true rfl, Nat.le_of_ble_eq_true rfl⟩ dX8_reckons_73) hS (fun r_65 L1 M1 H locs hp_65 hw hS => ?_)
              obtain ⟨⟨h_65, d_65⟩, hd_65, e1, e2, hm_65, hz_65⟩ := hp_65
              have hd_65 : d_65 ≤ 8 := hd_65
              rw [e1, e2] at hw; clear e1 e2
              have hm_65 : mFo (p_pop (h_62, d_62) 1) r_65 (h_65, d_65) := hm_65
              cases ho_65 : p_pop (h_62, d_62) 1 with
              | none =>
                rw [ho_65] at hm_65
                have hm_65 : r_65 = 0 := hm_65
                subst hm_65
                have hw : mW Γ.1 vwCl A L (cM Γ L (sP x 0 8 (h_62, d_62))) H := by rw [hz_65 ho_65] at hw; exact hw
                refine lv_if_eq (tgt := 94) hx hb dX8_reckons_76 (by decide) (fun _ => ?_) (fun h => absurd rfl h)
                refine lv_iconst (v := 0) hx hb dX8_reckons_94 (by decide) ?_
                exact m_zret (b := false) X hr hlk hw hS (Nat.le_of_ble_eq_true rfl) (Nat.le_of_ble_eq_true rfl) rfl ⟨(h_62, d_62), by show d_62 ≤ 8; omega, rfl, rfl, (by first | (refine (fun (e9 : o = 7) => ?_) (by assumption); subst e9; show mFo (p_7 v (h, d)) _ _; unfold p_7; rw [if_pos (rin_t (by assumption) (by assumption))]; first | (rw [b_s ho_62, ho_65]; exact mFo.n) | (rw [b_s ho_62, b_n ho_65]; exact mFo.n)) | (refine (fun (e9 : o = 8) => ?_) (by assumption); subst e9; show mFo (p_8 v (h, d)) _ _; unfold p_8; rw [if_pos (rin_t (by assumption) (by assumption))]; first | (rw [b_s ho_62, ho_65]; exact mFo.n) | (rw [b_s ho_62, b_n ho_65]; exact mFo.n)) | (refine (fun (e9 : o = 9) => ?_) (by assumption); subst e9; show mFo (p_9 (h, d)) _ _; unfold p_9; first | (rw [b_s ho_62, ho_65]; exact mFo.n) | (rw [b_s ho_62, b_n ho_65]; exact mFo.n)) | (refine (fun (e9 : o = 10) => ?_) (by assumption); subst e9; show mFo (p_10 (h, d)) _ _; unfold p_10; first | (rw [b_s ho_62, ho_65]; exact mFo.n) | (rw [b_s ho_62, b_n ho_65]; exact mFo.n)) | (rw [f_rec_d (by assumption)]; unfold p_11; first | (rw [b_s ho_62, ho_65]; exact mFo.n) | (rw [b_s ho_62, b_n ho_65]; exact mFo.n)))⟩ dX8_reckons_95
              | some z_65 =>
                rw [ho_65] at hm_65
                have hm_65 : r_65 = 1 ∧ (h_65, d_65) = z_65 := hm_65
                obtain ⟨e3, e4⟩ := hm_65
                subst e3; subst e4
                have ok_65 : okP (h_65, d_65) := ok_pop ok_62 _ ho_65
                refine lv_if_eq (tgt := 94) hx hb dX8_reckons_76 (by decide) (fun h => absurd h (by decide)) (fun _ => ?_)
                refine lv_aload_n hx hb dX8_reckons_79 rfl (lv_at hl 1 rfl) ?_
                refine s_get (a := 0) (b := 7) (ci := 6) X hw rfl rfl gX8 0 (by decide) fl_X8_10 rfl rfl dX8_reckons_80 ?_
                refine lv_iconst (v := 1) hx hb dX8_reckons_83 (by decide) ?_
                refine m_calli (m_runV (i := nm 0 8) (ci := 4) (As := [.int 1]) (rest := []) X (k_F6_push Γ l L x 0 8 h_65 d_65 1 pO8 (by omega)) v_X6_push ml_X8_74 hw hS (p_obj Γ L (c := sP x 0 8 (h_65, d_65)) pO8) rfl rfl rfl hl.1 ⟨Nat.le_of_ble_eq_true rfl, Nat.le_of_ble_eq_true rfl⟩ (Nat.le_of_ble_eq_true rfl) ⟨Nat.le_of_ble_eq_true rfl, Nat.le_of_ble_eq_true rfl⟩ dX8_reckons_84) hS (fun r_68 L1 M1 H locs hp_68 hw hS => ?_)
                obtain ⟨⟨h_68, d_68⟩, hd_68, e1, e2, hm_68⟩ := hp_68
                have hd_68 : d_68 ≤ 8 := hd_68
                rw [e1, e2] at hw; clear e1 e2
                have hm_68 : mFo (p_push (h_65, d_65) 1) r_68 (h_68, d_68) := hm_68
                cases ho_68 : p_push (h_65, d_65) 1 with
                | none =>
                  rw [ho_68] at hm_68
                  have hm_68 : r_68 = 0 := hm_68
                  subst hm_68
                  refine lv_if_eq (tgt := 94) hx hb dX8_reckons_87 (by decide) (fun _ => ?_) (fun h => absurd rfl h)
                  refine lv_iconst (v := 0) hx hb dX8_reckons_94 (by decide) ?_
                  exact m_zret (b := false) X hr hlk hw hS (Nat.le_of_ble_eq_true rfl) (Nat.le_of_ble_eq_true rfl) rfl ⟨(h_68, d_68), by show d_68 ≤ 8; omega, rfl, rfl, (by first | (refine (fun (e9 : o = 7) => ?_) (by assumption); subst e9; show mFo (p_7 v (h, d)) _ _; unfold p_7; rw [if_pos (rin_t (by assumption) (by assumption))]; first | (rw [b_s ho_62, b_s ho_65, ho_68]; exact mFo.n) | (rw [b_s ho_62, b_s ho_65, b_n ho_68]; exact mFo.n)) | (refine (fun (e9 : o = 8) => ?_) (by assumption); subst e9; show mFo (p_8 v (h, d)) _ _; unfold p_8; rw [if_pos (rin_t (by assumption) (by assumption))]; first | (rw [b_s ho_62, b_s ho_65, ho_68]; exact mFo.n) | (rw [b_s ho_62, b_s ho_65, b_n ho_68]; exact mFo.n)) | (refine (fun (e9 : o = 9) => ?_) (by assumption); subst e9; show mFo (p_9 (h, d)) _ _; unfold p_9; first | (rw [b_s ho_62, b_s ho_65, ho_68]; exact mFo.n) | (rw [b_s ho_62, b_s ho_65, b_n ho_68]; exact mFo.n)) | (refine (fun (e9 : o = 10) => ?_) (by assumption); subst e9; show mFo (p_10 (h, d)) _ _; unfold p_10; first | (rw [b_s ho_62, b_s ho_65, ho_68]; exact mFo.n) | (rw [b_s ho_62, b_s ho_65, b_n ho_68]; exact mFo.n)) | (rw [f_rec_d (by assumption)]; unfold p_11; first | (rw [b_s ho_62, b_s ho_65, ho_68]; exact mFo.n) | (rw [b_s ho_62, b_s ho_65, b_n ho_68]; exact mFo.n)))⟩ dX8_reckons_95
                | some z_68 =>
                  rw [ho_68] at hm_68
                  have hm_68 : r_68 = 1 ∧ (h_68, d_68) = z_68 := hm_68
                  obtain ⟨e3, e4⟩ := hm_68
                  subst e3; subst e4
                  refine lv_if_eq (tgt := 94) hx hb dX8_reckons_87 (by decide) (fun h => absurd h (by decide)) (fun _ => ?_)
                  refine lv_iconst (v := 1) hx hb dX8_reckons_90 (by decide) ?_
                  refine lv_goto (tgt := 95) hx hb dX8_reckons_91 (by decide) ?_
                  exact m_zret (b := true) X hr hlk hw hS (Nat.le_of_ble_eq_true rfl) (Nat.le_of_ble_eq_true rfl) rfl ⟨(h_68, d_68), by show d_68 ≤ 8; omega, rfl, rfl, (by first | (refine (fun (e9 : o = 7) => ?_) (by assumption); subst e9; show mFo (p_7 v (h, d)) _ _; unfold p_7; rw [if_pos (rin_t (by assumption) (by assumption))]; first | (rw [b_s ho_62, b_s ho_65, ho_68]; exact mFo.s) | (rw [b_s ho_62, b_s ho_65, b_s ho_68]; exact mFo.s)) | (refine (fun (e9 : o = 8) => ?_) (by assumption); subst e9; show mFo (p_8 v (h, d)) _ _; unfold p_8; rw [if_pos (rin_t (by assumption) (by assumption))]; first | (rw [b_s ho_62, b_s ho_65, ho_68]; exact mFo.s) | (rw [b_s ho_62, b_s ho_65, b_s ho_68]; exact mFo.s)) | (refine (fun (e9 : o = 9) => ?_) (by assumption); subst e9; show mFo (p_9 (h, d)) _ _; unfold p_9; first | (rw [b_s ho_62, b_s ho_65, ho_68]; exact mFo.s) | (rw [b_s ho_62, b_s ho_65, b_s ho_68]; exact mFo.s)) | (refine (fun (e9 : o = 10) => ?_) (by assumption); subst e9; show mFo (p_10 (h, d)) _ _; unfold p_10; first | (rw [b_s ho_62, b_s ho_65, ho_68]; exact mFo.s) | (rw [b_s ho_62, b_s ho_65, b_s ho_68]; exact mFo.s)) | (rw [f_rec_d (by assumption)]; unfold p_11; first | (rw [b_s ho_62, b_s ho_65, ho_68]; exact mFo.s) | (rw [b_s ho_62, b_s ho_65, b_s ho_68]; exact mFo.s)))⟩ dX8_reckons_95
        · have c_51e : o = 8 := Int32.toInt_inj.mp c_51v
          refine lv_tableIn (off := 74) (tgt := 96) hx hb dX8_reckons_22 (by omega) (by omega) (by rw [c_51v]; rfl) (by decide) ?_
          refine lv_iload hx hb dX8_reckons_96 (lv_at hl 0 rfl) ?_
          refine lv_if_eq (tgt := 135) hx hb dX8_reckons_98 (by decide) (fun c_71 => ?_) (fun c_71 => ?_)
          · skip
            exact absurd c_71 (by decide)
          · skip
            have c_71n : ¬ 1 = 0 := neqF (a := 1) (b := 0) rfl rfl (by omega) (by omega) c_71
            refine lv_aload_n hx hb dX8_reckons_101 rfl (lv_at hl 1 rfl) ?_
            refine s_get (a := 0) (b := 7) (ci := 6) X hw rfl rfl gX8 0 (by decide) fl_X8_10 rfl rfl dX8_reckons_102 ?_
            refine m_calli (m_runV (i := nm 0 8) (ci := 4) (As := []) (rest := []) X (k_F6_popLong Γ l L x 0 8 h d  pO8 (by omega)) v_X6_popLong ml_X8_106 hw hS (p_obj Γ L (c := sP x 0 8 (h, d)) pO8) rfl rfl rfl hl.1 ⟨Nat.le_of_ble_eq_true rfl, Nat.le_of_ble_eq_true rfl⟩ (Nat.le_of_ble_eq_true rfl) ⟨Nat.le_of_ble_eq_true rfl, Nat.le_of_ble_eq_true rfl⟩ dX8_reckons_105) hS (fun r_72 L1 M1 H locs hp_72 hw hS => ?_)
            obtain ⟨⟨h_72, d_72⟩, hd_72, e1, e2, hm_72⟩ := hp_72
            have hd_72 : d_72 ≤ 8 := hd_72
            rw [e1, e2] at hw; clear e1 e2
            have hm_72 : mFo (p_popL (h, d)) r_72 (h_72, d_72) := hm_72
            cases ho_72 : p_popL (h, d) with
            | none =>
              rw [ho_72] at hm_72
              have hm_72 : r_72 = 0 := hm_72
              subst hm_72
              refine lv_if_eq (tgt := 135) hx hb dX8_reckons_108 (by decide) (fun _ => ?_) (fun h => absurd rfl h)
              refine lv_iconst (v := 0) hx hb dX8_reckons_135 (by decide) ?_
              exact m_zret (b := false) X hr hlk hw hS (Nat.le_of_ble_eq_true rfl) (Nat.le_of_ble_eq_true rfl) rfl ⟨(h_72, d_72), by show d_72 ≤ 8; omega, rfl, rfl, (by first | (refine (fun (e9 : o = 7) => ?_) (by assumption); subst e9; show mFo (p_7 v (h, d)) _ _; unfold p_7; rw [if_pos (rin_t (by assumption) (by assumption))]; first | (rw [ho_72]; exact mFo.n) | (rw [b_n ho_72]; exact mFo.n)) | (refine (fun (e9 : o = 8) => ?_) (by assumption); subst e9; show mFo (p_8 v (h, d)) _ _; unfold p_8; rw [if_pos (rin_t (by assumption) (by assumption))]; first | (rw [ho_72]; exact mFo.n) | (rw [b_n ho_72]; exact mFo.n)) | (refine (fun (e9 : o = 9) => ?_) (by assumption); subst e9; show mFo (p_9 (h, d)) _ _; unfold p_9; first | (rw [ho_72]; exact mFo.n) | (rw [b_n ho_72]; exact mFo.n)) | (refine (fun (e9 : o = 10) => ?_) (by assumption); subst e9; show mFo (p_10 (h, d)) _ _; unfold p_10; first | (rw [ho_72]; exact mFo.n) | (rw [b_n ho_72]; exact mFo.n)) | (rw [f_rec_d (by assumption)]; unfold p_11; first | (rw [ho_72]; exact mFo.n) | (rw [b_n ho_72]; exact mFo.n)))⟩ dX8_reckons_136
            | some z_72 =>
              rw [ho_72] at hm_72
              have hm_72 : r_72 = 1 ∧ (h_72, d_72) = z_72 := hm_72
              obtain ⟨e3, e4⟩ := hm_72
              subst e3; subst e4
              have ok_72 : okP (h_72, d_72) := ok_popL ok _ ho_72
              refine lv_if_eq (tgt := 135) hx hb dX8_reckons_108 (by decide) (fun h => absurd h (by decide)) (fun _ => ?_)
              refine lv_aload_n hx hb dX8_reckons_111 rfl (lv_at hl 1 rfl) ?_
              refine s_get (a := 0) (b := 7) (ci := 6) X hw rfl rfl gX8 0 (by decide) fl_X8_10 rfl rfl dX8_reckons_112 ?_
              refine m_calli (m_runV (i := nm 0 8) (ci := 4) (As := []) (rest := []) X (k_F6_popLong Γ l L x 0 8 h_72 d_72  pO8 (by omega)) v_X6_popLong ml_X8_106 hw hS (p_obj Γ L (c := sP x 0 8 (h_72, d_72)) pO8) rfl rfl rfl hl.1 ⟨Nat.le_of_ble_eq_true rfl, Nat.le_of_ble_eq_true rfl⟩ (Nat.le_of_ble_eq_true rfl) ⟨Nat.le_of_ble_eq_true rfl, Nat.le_of_ble_eq_true rfl⟩ dX8_reckons_115) hS (fun r_75 L1 M1 H locs hp_75 hw hS => ?_)
              obtain ⟨⟨h_75, d_75⟩, hd_75, e1, e2, hm_75⟩ := hp_75
              have hd_75 : d_75 ≤ 8 := hd_75
              rw [e1, e2] at hw; clear e1 e2
              have hm_75 : mFo (p_popL (h_72, d_72)) r_75 (h_75, d_75) := hm_75
              cases ho_75 : p_popL (h_72, d_72) with
              | none =>
                rw [ho_75] at hm_75
                have hm_75 : r_75 = 0 := hm_75
                subst hm_75
                refine lv_if_eq (tgt := 135) hx hb dX8_reckons_118 (by decide) (fun _ => ?_) (fun h => absurd rfl h)
                refine lv_iconst (v := 0) hx hb dX8_reckons_135 (by decide) ?_
                exact m_zret (b := false) X hr hlk hw hS (Nat.le_of_ble_eq_true rfl) (Nat.le_of_ble_eq_true rfl) rfl ⟨(h_75, d_75), by show d_75 ≤ 8; omega, rfl, rfl, (by first | (refine (fun (e9 : o = 7) => ?_) (by assumption); subst e9; show mFo (p_7 v (h, d)) _ _; unfold p_7; rw [if_pos (rin_t (by assumption) (by assumption))]; first | (rw [b_s ho_72, ho_75]; exact mFo.n) | (rw [b_s ho_72, b_n ho_75]; exact mFo.n)) | (refine (fun (e9 : o = 8) => ?_) (by assumption); subst e9; show mFo (p_8 v (h, d)) _ _; unfold p_8; rw [if_pos (rin_t (by assumption) (by assumption))]; first | (rw [b_s ho_72, ho_75]; exact mFo.n) | (rw [b_s ho_72, b_n ho_75]; exact mFo.n)) | (refine (fun (e9 : o = 9) => ?_) (by assumption); subst e9; show mFo (p_9 (h, d)) _ _; unfold p_9; first | (rw [b_s ho_72, ho_75]; exact mFo.n) | (rw [b_s ho_72, b_n ho_75]; exact mFo.n)) | (refine (fun (e9 : o = 10) => ?_) (by assumption); subst e9; show mFo (p_10 (h, d)) _ _; unfold p_10; first | (rw [b_s ho_72, ho_75]; exact mFo.n) | (rw [b_s ho_72, b_n ho_75]; exact mFo.n)) | (rw [f_rec_d (by assumption)]; unfold p_11; first | (rw [b_s ho_72, ho_75]; exact mFo.n) | (rw [b_s ho_72, b_n ho_75]; exact mFo.n)))⟩ dX8_reckons_136
              | some z_75 =>
                rw [ho_75] at hm_75
                have hm_75 : r_75 = 1 ∧ (h_75, d_75) = z_75 := hm_75
                obtain ⟨e3, e4⟩ := hm_75
                subst e3; subst e4
                have ok_75 : okP (h_75, d_75) := ok_popL ok_72 _ ho_75
                refine lv_if_eq (tgt := 135) hx hb dX8_reckons_118 (by decide) (fun h => absurd h (by decide)) (fun _ => ?_)
                refine lv_aload_n hx hb dX8_reckons_121 rfl (lv_at hl 1 rfl) ?_
                refine s_get (a := 0) (b := 7) (ci := 6) X hw rfl rfl gX8 0 (by decide) fl_X8_10 rfl rfl dX8_reckons_122 ?_
                refine m_calli (m_runV (i := nm 0 8) (ci := 4) (As := []) (rest := []) X (k_F6_pushLong Γ l L x 0 8 h_75 d_75  pO8 (by omega)) v_X6_pushLong ml_X8_77 hw hS (p_obj Γ L (c := sP x 0 8 (h_75, d_75)) pO8) rfl rfl rfl hl.1 ⟨Nat.le_of_ble_eq_true rfl, Nat.le_of_ble_eq_true rfl⟩ (Nat.le_of_ble_eq_true rfl) ⟨Nat.le_of_ble_eq_true rfl, Nat.le_of_ble_eq_true rfl⟩ dX8_reckons_125) hS (fun r_78 L1 M1 H locs hp_78 hw hS => ?_)
                obtain ⟨⟨h_78, d_78⟩, hd_78, e1, e2, hm_78⟩ := hp_78
                have hd_78 : d_78 ≤ 8 := hd_78
                rw [e1, e2] at hw; clear e1 e2
                have hm_78 : mFo (p_pushL (h_75, d_75)) r_78 (h_78, d_78) := hm_78
                cases ho_78 : p_pushL (h_75, d_75) with
                | none =>
                  rw [ho_78] at hm_78
                  have hm_78 : r_78 = 0 := hm_78
                  subst hm_78
                  refine lv_if_eq (tgt := 135) hx hb dX8_reckons_128 (by decide) (fun _ => ?_) (fun h => absurd rfl h)
                  refine lv_iconst (v := 0) hx hb dX8_reckons_135 (by decide) ?_
                  exact m_zret (b := false) X hr hlk hw hS (Nat.le_of_ble_eq_true rfl) (Nat.le_of_ble_eq_true rfl) rfl ⟨(h_78, d_78), by show d_78 ≤ 8; omega, rfl, rfl, (by first | (refine (fun (e9 : o = 7) => ?_) (by assumption); subst e9; show mFo (p_7 v (h, d)) _ _; unfold p_7; rw [if_pos (rin_t (by assumption) (by assumption))]; first | (rw [b_s ho_72, b_s ho_75, ho_78]; exact mFo.n) | (rw [b_s ho_72, b_s ho_75, b_n ho_78]; exact mFo.n)) | (refine (fun (e9 : o = 8) => ?_) (by assumption); subst e9; show mFo (p_8 v (h, d)) _ _; unfold p_8; rw [if_pos (rin_t (by assumption) (by assumption))]; first | (rw [b_s ho_72, b_s ho_75, ho_78]; exact mFo.n) | (rw [b_s ho_72, b_s ho_75, b_n ho_78]; exact mFo.n)) | (refine (fun (e9 : o = 9) => ?_) (by assumption); subst e9; show mFo (p_9 (h, d)) _ _; unfold p_9; first | (rw [b_s ho_72, b_s ho_75, ho_78]; exact mFo.n) | (rw [b_s ho_72, b_s ho_75, b_n ho_78]; exact mFo.n)) | (refine (fun (e9 : o = 10) => ?_) (by assumption); subst e9; show mFo (p_10 (h, d)) _ _; unfold p_10; first | (rw [b_s ho_72, b_s ho_75, ho_78]; exact mFo.n) | (rw [b_s ho_72, b_s ho_75, b_n ho_78]; exact mFo.n)) | (rw [f_rec_d (by assumption)]; unfold p_11; first | (rw [b_s ho_72, b_s ho_75, ho_78]; exact mFo.n) | (rw [b_s ho_72, b_s ho_75, b_n ho_78]; exact mFo.n)))⟩ dX8_reckons_136
                | some z_78 =>
                  rw [ho_78] at hm_78
                  have hm_78 : r_78 = 1 ∧ (h_78, d_78) = z_78 := hm_78
                  obtain ⟨e3, e4⟩ := hm_78
                  subst e3; subst e4
                  refine lv_if_eq (tgt := 135) hx hb dX8_reckons_128 (by decide) (fun h => absurd h (by decide)) (fun _ => ?_)
                  refine lv_iconst (v := 1) hx hb dX8_reckons_131 (by decide) ?_
                  refine lv_goto (tgt := 136) hx hb dX8_reckons_132 (by decide) ?_
                  exact m_zret (b := true) X hr hlk hw hS (Nat.le_of_ble_eq_true rfl) (Nat.le_of_ble_eq_true rfl) rfl ⟨(h_78, d_78), by show d_78 ≤ 8; omega, rfl, rfl, (by first | (refine (fun (e9 : o = 7) => ?_) (by assumption); subst e9; show mFo (p_7 v (h, d)) _ _; unfold p_7; rw [if_pos (rin_t (by assumption) (by assumption))]; first | (rw [b_s ho_72, b_s ho_75, ho_78]; exact mFo.s) | (rw [b_s ho_72, b_s ho_75, b_s ho_78]; exact mFo.s)) | (refine (fun (e9 : o = 8) => ?_) (by assumption); subst e9; show mFo (p_8 v (h, d)) _ _; unfold p_8; rw [if_pos (rin_t (by assumption) (by assumption))]; first | (rw [b_s ho_72, b_s ho_75, ho_78]; exact mFo.s) | (rw [b_s ho_72, b_s ho_75, b_s ho_78]; exact mFo.s)) | (refine (fun (e9 : o = 9) => ?_) (by assumption); subst e9; show mFo (p_9 (h, d)) _ _; unfold p_9; first | (rw [b_s ho_72, b_s ho_75, ho_78]; exact mFo.s) | (rw [b_s ho_72, b_s ho_75, b_s ho_78]; exact mFo.s)) | (refine (fun (e9 : o = 10) => ?_) (by assumption); subst e9; show mFo (p_10 (h, d)) _ _; unfold p_10; first | (rw [b_s ho_72, b_s ho_75, ho_78]; exact mFo.s) | (rw [b_s ho_72, b_s ho_75, b_s ho_78]; exact mFo.s)) | (rw [f_rec_d (by assumption)]; unfold p_11; first | (rw [b_s ho_72, b_s ho_75, ho_78]; exact mFo.s) | (rw [b_s ho_72, b_s ho_75, b_s ho_78]; exact mFo.s)))⟩ dX8_reckons_136
        · have c_51e : o = 9 := Int32.toInt_inj.mp c_51v
          refine lv_tableIn (off := 115) (tgt := 137) hx hb dX8_reckons_22 (by omega) (by omega) (by rw [c_51v]; rfl) (by decide) ?_
          refine lv_aload_n hx hb dX8_reckons_137 rfl (lv_at hl 1 rfl) ?_
          refine s_get (a := 0) (b := 7) (ci := 6) X hw rfl rfl gX8 0 (by decide) fl_X8_10 rfl rfl dX8_reckons_138 ?_
          refine lv_iconst (v := 1) hx hb dX8_reckons_141 (by decide) ?_
          refine m_calli (m_runV (i := nm 0 8) (ci := 4) (As := [.int 1]) (rest := []) X (k_F6_pop Γ l L x 0 8 h d 1 pO8 (by omega) ok (by decide) (by decide)) v_X6_pop ml_X8_115 hw hS (p_obj Γ L (c := sP x 0 8 (h, d)) pO8) rfl rfl rfl hl.1 ⟨Nat.le_of_ble_eq_true rfl, Nat.le_of_ble_eq_true rfl⟩ (Nat.le_of_ble_eq_true rfl) ⟨Nat.le_of_ble_eq_true rfl, Nat.le_of_ble_eq_true rfl⟩ dX8_reckons_142) hS (fun r_81 L1 M1 H locs hp_81 hw hS => ?_)
          obtain ⟨⟨h_81, d_81⟩, hd_81, e1, e2, hm_81, hz_81⟩ := hp_81
          have hd_81 : d_81 ≤ 8 := hd_81
          rw [e1, e2] at hw; clear e1 e2
          have hm_81 : mFo (p_pop (h, d) 1) r_81 (h_81, d_81) := hm_81
          cases ho_81 : p_pop (h, d) 1 with
          | none =>
            rw [ho_81] at hm_81
            have hm_81 : r_81 = 0 := hm_81
            subst hm_81
            have hw : mW Γ.1 vwCl A L (cM Γ L (sP x 0 8 (h, d))) H := by rw [hz_81 ho_81] at hw; exact hw
            refine lv_if_eq (tgt := 162) hx hb dX8_reckons_145 (by decide) (fun _ => ?_) (fun h => absurd rfl h)
            refine lv_iconst (v := 0) hx hb dX8_reckons_162 (by decide) ?_
            exact m_zret (b := false) X hr hlk hw hS (Nat.le_of_ble_eq_true rfl) (Nat.le_of_ble_eq_true rfl) rfl ⟨(h, d), by show d ≤ 8; omega, rfl, rfl, (by first | (refine (fun (e9 : o = 7) => ?_) (by assumption); subst e9; show mFo (p_7 v (h, d)) _ _; unfold p_7; rw [if_pos (rin_t (by assumption) (by assumption))]; first | (rw [ho_81]; exact mFo.n) | (rw [b_n ho_81]; exact mFo.n)) | (refine (fun (e9 : o = 8) => ?_) (by assumption); subst e9; show mFo (p_8 v (h, d)) _ _; unfold p_8; rw [if_pos (rin_t (by assumption) (by assumption))]; first | (rw [ho_81]; exact mFo.n) | (rw [b_n ho_81]; exact mFo.n)) | (refine (fun (e9 : o = 9) => ?_) (by assumption); subst e9; show mFo (p_9 (h, d)) _ _; unfold p_9; first | (rw [ho_81]; exact mFo.n) | (rw [b_n ho_81]; exact mFo.n)) | (refine (fun (e9 : o = 10) => ?_) (by assumption); subst e9; show mFo (p_10 (h, d)) _ _; unfold p_10; first | (rw [ho_81]; exact mFo.n) | (rw [b_n ho_81]; exact mFo.n)) | (rw [f_rec_d (by assumption)]; unfold p_11; first | (rw [ho_81]; exact mFo.n) | (rw [b_n ho_81]; exact mFo.n)))⟩ dX8_reckons_163
          | some z_81 =>
            rw [ho_81] at hm_81
            have hm_81 : r_81 = 1 ∧ (h_81, d_81) = z_81 := hm_81
            obtain ⟨e3, e4⟩ := hm_81
            subst e3; subst e4
            have ok_81 : okP (h_81, d_81) := ok_pop ok _ ho_81
            refine lv_if_eq (tgt := 162) hx hb dX8_reckons_145 (by decide) (fun h => absurd h (by decide)) (fun _ => ?_)
            refine lv_aload_n hx hb dX8_reckons_148 rfl (lv_at hl 1 rfl) ?_
            refine s_get (a := 0) (b := 7) (ci := 6) X hw rfl rfl gX8 0 (by decide) fl_X8_10 rfl rfl dX8_reckons_149 ?_
            refine m_calli (m_runV (i := nm 0 8) (ci := 4) (As := []) (rest := []) X (k_F6_pushLong Γ l L x 0 8 h_81 d_81  pO8 (by omega)) v_X6_pushLong ml_X8_77 hw hS (p_obj Γ L (c := sP x 0 8 (h_81, d_81)) pO8) rfl rfl rfl hl.1 ⟨Nat.le_of_ble_eq_true rfl, Nat.le_of_ble_eq_true rfl⟩ (Nat.le_of_ble_eq_true rfl) ⟨Nat.le_of_ble_eq_true rfl, Nat.le_of_ble_eq_true rfl⟩ dX8_reckons_152) hS (fun r_84 L1 M1 H locs hp_84 hw hS => ?_)
            obtain ⟨⟨h_84, d_84⟩, hd_84, e1, e2, hm_84⟩ := hp_84
            have hd_84 : d_84 ≤ 8 := hd_84
            rw [e1, e2] at hw; clear e1 e2
            have hm_84 : mFo (p_pushL (h_81, d_81)) r_84 (h_84, d_84) := hm_84
            cases ho_84 : p_pushL (h_81, d_81) with
            | none =>
              rw [ho_84] at hm_84
              have hm_84 : r_84 = 0 := hm_84
              subst hm_84
              refine lv_if_eq (tgt := 162) hx hb dX8_reckons_155 (by decide) (fun _ => ?_) (fun h => absurd rfl h)
              refine lv_iconst (v := 0) hx hb dX8_reckons_162 (by decide) ?_
              exact m_zret (b := false) X hr hlk hw hS (Nat.le_of_ble_eq_true rfl) (Nat.le_of_ble_eq_true rfl) rfl ⟨(h_84, d_84), by show d_84 ≤ 8; omega, rfl, rfl, (by first | (refine (fun (e9 : o = 7) => ?_) (by assumption); subst e9; show mFo (p_7 v (h, d)) _ _; unfold p_7; rw [if_pos (rin_t (by assumption) (by assumption))]; first | (rw [b_s ho_81, ho_84]; exact mFo.n) | (rw [b_s ho_81, b_n ho_84]; exact mFo.n)) | (refine (fun (e9 : o = 8) => ?_) (by assumption); subst e9; show mFo (p_8 v (h, d)) _ _; unfold p_8; rw [if_pos (rin_t (by assumption) (by assumption))]; first | (rw [b_s ho_81, ho_84]; exact mFo.n) | (rw [b_s ho_81, b_n ho_84]; exact mFo.n)) | (refine (fun (e9 : o = 9) => ?_) (by assumption); subst e9; show mFo (p_9 (h, d)) _ _; unfold p_9; first | (rw [b_s ho_81, ho_84]; exact mFo.n) | (rw [b_s ho_81, b_n ho_84]; exact mFo.n)) | (refine (fun (e9 : o = 10) => ?_) (by assumption); subst e9; show mFo (p_10 (h, d)) _ _; unfold p_10; first | (rw [b_s ho_81, ho_84]; exact mFo.n) | (rw [b_s ho_81, b_n ho_84]; exact mFo.n)) | (rw [f_rec_d (by assumption)]; unfold p_11; first | (rw [b_s ho_81, ho_84]; exact mFo.n) | (rw [b_s ho_81, b_n ho_84]; exact mFo.n)))⟩ dX8_reckons_163
            | some z_84 =>
              rw [ho_84] at hm_84
              have hm_84 : r_84 = 1 ∧ (h_84, d_84) = z_84 := hm_84
              obtain ⟨e3, e4⟩ := hm_84
              subst e3; subst e4
              refine lv_if_eq (tgt := 162) hx hb dX8_reckons_155 (by decide) (fun h => absurd h (by decide)) (fun _ => ?_)
              refine lv_iconst (v := 1) hx hb dX8_reckons_158 (by decide) ?_
              refine lv_goto (tgt := 163) hx hb dX8_reckons_159 (by decide) ?_
              exact m_zret (b := true) X hr hlk hw hS (Nat.le_of_ble_eq_true rfl) (Nat.le_of_ble_eq_true rfl) rfl ⟨(h_84, d_84), by show d_84 ≤ 8; omega, rfl, rfl, (by first | (refine (fun (e9 : o = 7) => ?_) (by assumption); subst e9; show mFo (p_7 v (h, d)) _ _; unfold p_7; rw [if_pos (rin_t (by assumption) (by assumption))]; first | (rw [b_s ho_81, ho_84]; exact mFo.s) | (rw [b_s ho_81, b_s ho_84]; exact mFo.s)) | (refine (fun (e9 : o = 8) => ?_) (by assumption); subst e9; show mFo (p_8 v (h, d)) _ _; unfold p_8; rw [if_pos (rin_t (by assumption) (by assumption))]; first | (rw [b_s ho_81, ho_84]; exact mFo.s) | (rw [b_s ho_81, b_s ho_84]; exact mFo.s)) | (refine (fun (e9 : o = 9) => ?_) (by assumption); subst e9; show mFo (p_9 (h, d)) _ _; unfold p_9; first | (rw [b_s ho_81, ho_84]; exact mFo.s) | (rw [b_s ho_81, b_s ho_84]; exact mFo.s)) | (refine (fun (e9 : o = 10) => ?_) (by assumption); subst e9; show mFo (p_10 (h, d)) _ _; unfold p_10; first | (rw [b_s ho_81, ho_84]; exact mFo.s) | (rw [b_s ho_81, b_s ho_84]; exact mFo.s)) | (rw [f_rec_d (by assumption)]; unfold p_11; first | (rw [b_s ho_81, ho_84]; exact mFo.s) | (rw [b_s ho_81, b_s ho_84]; exact mFo.s)))⟩ dX8_reckons_163
        · have c_51e : o = 10 := Int32.toInt_inj.mp c_51v
          refine lv_tableIn (off := 142) (tgt := 164) hx hb dX8_reckons_22 (by omega) (by omega) (by rw [c_51v]; rfl) (by decide) ?_
          refine lv_aload_n hx hb dX8_reckons_164 rfl (lv_at hl 1 rfl) ?_
          refine s_get (a := 0) (b := 7) (ci := 6) X hw rfl rfl gX8 0 (by decide) fl_X8_10 rfl rfl dX8_reckons_165 ?_
          refine m_calli (m_runV (i := nm 0 8) (ci := 4) (As := []) (rest := []) X (k_F6_popLong Γ l L x 0 8 h d  pO8 (by omega)) v_X6_popLong ml_X8_106 hw hS (p_obj Γ L (c := sP x 0 8 (h, d)) pO8) rfl rfl rfl hl.1 ⟨Nat.le_of_ble_eq_true rfl, Nat.le_of_ble_eq_true rfl⟩ (Nat.le_of_ble_eq_true rfl) ⟨Nat.le_of_ble_eq_true rfl, Nat.le_of_ble_eq_true rfl⟩ dX8_reckons_168) hS (fun r_87 L1 M1 H locs hp_87 hw hS => ?_)
          obtain ⟨⟨h_87, d_87⟩, hd_87, e1, e2, hm_87⟩ := hp_87
          have hd_87 : d_87 ≤ 8 := hd_87
          rw [e1, e2] at hw; clear e1 e2
          have hm_87 : mFo (p_popL (h, d)) r_87 (h_87, d_87) := hm_87
          cases ho_87 : p_popL (h, d) with
          | none =>
            rw [ho_87] at hm_87
            have hm_87 : r_87 = 0 := hm_87
            subst hm_87
            refine lv_if_eq (tgt := 189) hx hb dX8_reckons_171 (by decide) (fun _ => ?_) (fun h => absurd rfl h)
            refine lv_iconst (v := 0) hx hb dX8_reckons_189 (by decide) ?_
            exact m_zret (b := false) X hr hlk hw hS (Nat.le_of_ble_eq_true rfl) (Nat.le_of_ble_eq_true rfl) rfl ⟨(h_87, d_87), by show d_87 ≤ 8; omega, rfl, rfl, (by first | (refine (fun (e9 : o = 7) => ?_) (by assumption); subst e9; show mFo (p_7 v (h, d)) _ _; unfold p_7; rw [if_pos (rin_t (by assumption) (by assumption))]; first | (rw [ho_87]; exact mFo.n) | (rw [b_n ho_87]; exact mFo.n)) | (refine (fun (e9 : o = 8) => ?_) (by assumption); subst e9; show mFo (p_8 v (h, d)) _ _; unfold p_8; rw [if_pos (rin_t (by assumption) (by assumption))]; first | (rw [ho_87]; exact mFo.n) | (rw [b_n ho_87]; exact mFo.n)) | (refine (fun (e9 : o = 9) => ?_) (by assumption); subst e9; show mFo (p_9 (h, d)) _ _; unfold p_9; first | (rw [ho_87]; exact mFo.n) | (rw [b_n ho_87]; exact mFo.n)) | (refine (fun (e9 : o = 10) => ?_) (by assumption); subst e9; show mFo (p_10 (h, d)) _ _; unfold p_10; first | (rw [ho_87]; exact mFo.n) | (rw [b_n ho_87]; exact mFo.n)) | (rw [f_rec_d (by assumption)]; unfold p_11; first | (rw [ho_87]; exact mFo.n) | (rw [b_n ho_87]; exact mFo.n)))⟩ dX8_reckons_190
          | some z_87 =>
            rw [ho_87] at hm_87
            have hm_87 : r_87 = 1 ∧ (h_87, d_87) = z_87 := hm_87
            obtain ⟨e3, e4⟩ := hm_87
            subst e3; subst e4
            have ok_87 : okP (h_87, d_87) := ok_popL ok _ ho_87
            refine lv_if_eq (tgt := 189) hx hb dX8_reckons_171 (by decide) (fun h => absurd h (by decide)) (fun _ => ?_)
            refine lv_aload_n hx hb dX8_reckons_174 rfl (lv_at hl 1 rfl) ?_
            refine s_get (a := 0) (b := 7) (ci := 6) X hw rfl rfl gX8 0 (by decide) fl_X8_10 rfl rfl dX8_reckons_175 ?_
            refine lv_iconst (v := 1) hx hb dX8_reckons_178 (by decide) ?_
            refine m_calli (m_runV (i := nm 0 8) (ci := 4) (As := [.int 1]) (rest := []) X (k_F6_push Γ l L x 0 8 h_87 d_87 1 pO8 (by omega)) v_X6_push ml_X8_74 hw hS (p_obj Γ L (c := sP x 0 8 (h_87, d_87)) pO8) rfl rfl rfl hl.1 ⟨Nat.le_of_ble_eq_true rfl, Nat.le_of_ble_eq_true rfl⟩ (Nat.le_of_ble_eq_true rfl) ⟨Nat.le_of_ble_eq_true rfl, Nat.le_of_ble_eq_true rfl⟩ dX8_reckons_179) hS (fun r_90 L1 M1 H locs hp_90 hw hS => ?_)
            obtain ⟨⟨h_90, d_90⟩, hd_90, e1, e2, hm_90⟩ := hp_90
            have hd_90 : d_90 ≤ 8 := hd_90
            rw [e1, e2] at hw; clear e1 e2
            have hm_90 : mFo (p_push (h_87, d_87) 1) r_90 (h_90, d_90) := hm_90
            cases ho_90 : p_push (h_87, d_87) 1 with
            | none =>
              rw [ho_90] at hm_90
              have hm_90 : r_90 = 0 := hm_90
              subst hm_90
              refine lv_if_eq (tgt := 189) hx hb dX8_reckons_182 (by decide) (fun _ => ?_) (fun h => absurd rfl h)
              refine lv_iconst (v := 0) hx hb dX8_reckons_189 (by decide) ?_
              exact m_zret (b := false) X hr hlk hw hS (Nat.le_of_ble_eq_true rfl) (Nat.le_of_ble_eq_true rfl) rfl ⟨(h_90, d_90), by show d_90 ≤ 8; omega, rfl, rfl, (by first | (refine (fun (e9 : o = 7) => ?_) (by assumption); subst e9; show mFo (p_7 v (h, d)) _ _; unfold p_7; rw [if_pos (rin_t (by assumption) (by assumption))]; first | (rw [b_s ho_87, ho_90]; exact mFo.n) | (rw [b_s ho_87, b_n ho_90]; exact mFo.n)) | (refine (fun (e9 : o = 8) => ?_) (by assumption); subst e9; show mFo (p_8 v (h, d)) _ _; unfold p_8; rw [if_pos (rin_t (by assumption) (by assumption))]; first | (rw [b_s ho_87, ho_90]; exact mFo.n) | (rw [b_s ho_87, b_n ho_90]; exact mFo.n)) | (refine (fun (e9 : o = 9) => ?_) (by assumption); subst e9; show mFo (p_9 (h, d)) _ _; unfold p_9; first | (rw [b_s ho_87, ho_90]; exact mFo.n) | (rw [b_s ho_87, b_n ho_90]; exact mFo.n)) | (refine (fun (e9 : o = 10) => ?_) (by assumption); subst e9; show mFo (p_10 (h, d)) _ _; unfold p_10; first | (rw [b_s ho_87, ho_90]; exact mFo.n) | (rw [b_s ho_87, b_n ho_90]; exact mFo.n)) | (rw [f_rec_d (by assumption)]; unfold p_11; first | (rw [b_s ho_87, ho_90]; exact mFo.n) | (rw [b_s ho_87, b_n ho_90]; exact mFo.n)))⟩ dX8_reckons_190
            | some z_90 =>
              rw [ho_90] at hm_90
              have hm_90 : r_90 = 1 ∧ (h_90, d_90) = z_90 := hm_90
              obtain ⟨e3, e4⟩ := hm_90
              subst e3; subst e4
              refine lv_if_eq (tgt := 189) hx hb dX8_reckons_182 (by decide) (fun h => absurd h (by decide)) (fun _ => ?_)
              refine lv_iconst (v := 1) hx hb dX8_reckons_185 (by decide) ?_
              refine lv_goto (tgt := 190) hx hb dX8_reckons_186 (by decide) ?_
              exact m_zret (b := true) X hr hlk hw hS (Nat.le_of_ble_eq_true rfl) (Nat.le_of_ble_eq_true rfl) rfl ⟨(h_90, d_90), by show d_90 ≤ 8; omega, rfl, rfl, (by first | (refine (fun (e9 : o = 7) => ?_) (by assumption); subst e9; show mFo (p_7 v (h, d)) _ _; unfold p_7; rw [if_pos (rin_t (by assumption) (by assumption))]; first | (rw [b_s ho_87, ho_90]; exact mFo.s) | (rw [b_s ho_87, b_s ho_90]; exact mFo.s)) | (refine (fun (e9 : o = 8) => ?_) (by assumption); subst e9; show mFo (p_8 v (h, d)) _ _; unfold p_8; rw [if_pos (rin_t (by assumption) (by assumption))]; first | (rw [b_s ho_87, ho_90]; exact mFo.s) | (rw [b_s ho_87, b_s ho_90]; exact mFo.s)) | (refine (fun (e9 : o = 9) => ?_) (by assumption); subst e9; show mFo (p_9 (h, d)) _ _; unfold p_9; first | (rw [b_s ho_87, ho_90]; exact mFo.s) | (rw [b_s ho_87, b_s ho_90]; exact mFo.s)) | (refine (fun (e9 : o = 10) => ?_) (by assumption); subst e9; show mFo (p_10 (h, d)) _ _; unfold p_10; first | (rw [b_s ho_87, ho_90]; exact mFo.s) | (rw [b_s ho_87, b_s ho_90]; exact mFo.s)) | (rw [f_rec_d (by assumption)]; unfold p_11; first | (rw [b_s ho_87, ho_90]; exact mFo.s) | (rw [b_s ho_87, b_s ho_90]; exact mFo.s)))⟩ dX8_reckons_190
set_option maxHeartbeats 4000000 in
set_option maxRecDepth 100000 in
theorem k_F8_begins (Γ : mG) (l : Launch) (L : mI → Nat) (x : CS) (h : Nat → Int32) (d : Nat) (k : Int32) (v : Int64) (hd : d ≤ 8) (ok : okP (h, d)) : mMet Γ l yX8_begins cX8_begins 5 (some .boolean) { frames := 2, cells := 0, slots := 0, locals := 44 } [.ref (L (nm 0 7)), .int k, .long v] L (cM Γ L (sP x 0 8 (h, d))) (mQi Γ (mFz Γ L x 0 8 (p_new (h, d) k v))) := by
  refine m_start (by decide) (Nat.le_of_ble_eq_true rfl) ?_
  intro p e s m args below meth c A ls X hr hlk hnm hw hS hl
  have hx := X.1.1
  have hb := X.1.2.1
  have hl : lv_has ls 5 [(0, .ref (L (nm 0 7))), (1, .int k), (2, .long v)] := hl
  refine lv_bipush (v := 100) hx hb dX8_begins_0 (by decide) ?_
  refine lv_iload_n hx hb dX8_begins_2 rfl (lv_at hl 1 rfl) ?_
  refine lv_iadd hx hb dX8_begins_3 ?_
  refine lv_istore (lv' := [(4, .int (100 + k)), (0, .ref (L (nm 0 7))), (1, .int k), (2, .long v)]) hx hb dX8_begins_4 hl (by decide) rfl (fun ls hl => ?_)
  refine lv_lload_n hx hb dX8_begins_6 rfl (lv_at hl 3 rfl) ?_
  refine m_calli (m_runS (As := [.long v]) (rest := []) X (k_X3_isClass Γ l L (cM Γ L (sP x 0 8 (h, d))) v) s_X3_isClass ml_X8_118 hw hS rfl hl.1 ⟨Nat.le_of_ble_eq_true rfl, Nat.le_of_ble_eq_true rfl⟩ (Nat.le_of_ble_eq_true rfl) ⟨Nat.le_of_ble_eq_true rfl, Nat.le_of_ble_eq_true rfl⟩ dX8_begins_7) hS (fun r_1 L1 M1 H locs hp_1 hw hS => ?_)
  obtain ⟨rfl, e1, e2⟩ := hp_1
  rw [e1, e2] at hw; clear e1 e2
  refine lv_if_eq (tgt := 25) hx hb dX8_begins_10 (by decide) (fun c_2 => ?_) (fun c_2 => ?_)
  · skip
    have c_2 := bI_f c_2
    refine lv_iconst (v := 0) hx hb dX8_begins_25 (by decide) ?_
    exact m_zret (b := false) X hr hlk hw hS (Nat.le_of_ble_eq_true rfl) (Nat.le_of_ble_eq_true rfl) rfl ⟨(h, d), by show d ≤ 8; omega, rfl, rfl, (by unfold p_new; first | (rw [if_neg (show ¬ r_isIn v 1 5 = true from (fun z9 => absurd (show k_cls v = true from z9) (by rw [show k_cls v = false by assumption]; decide)))]; exact mFo.n) | (rw [if_pos (show r_isIn v 1 5 = true from (show k_cls v = true by assumption)), if_pos (by assumption)]; exact mFo.n))⟩ dX8_begins_26
  · skip
    have c_2 := bI_t c_2
    refine lv_aload_n hx hb dX8_begins_13 rfl (lv_at hl 1 rfl) ?_
    refine s_get (a := 0) (b := 7) (ci := 6) X hw rfl rfl gX8 0 (by decide) fl_X8_10 rfl rfl dX8_begins_14 ?_
    refine lv_iload hx hb dX8_begins_17 (lv_at hl 0 rfl) ?_
    refine m_calli (m_runV (i := nm 0 8) (ci := 4) (As := [.int (100 + k)]) (rest := []) X (k_F6_stackHolds Γ l L x 0 8 h d (100 + k) pO8 (by omega)) v_X6_stackHolds ml_X8_121 hw hS (p_obj Γ L (c := sP x 0 8 (h, d)) pO8) rfl rfl rfl hl.1 ⟨Nat.le_of_ble_eq_true rfl, Nat.le_of_ble_eq_true rfl⟩ (Nat.le_of_ble_eq_true rfl) ⟨Nat.le_of_ble_eq_true rfl, Nat.le_of_ble_eq_true rfl⟩ dX8_begins_19) hS (fun r_3 L1 M1 H locs hp_3 hw hS => ?_)
    obtain ⟨rfl, e1, e2⟩ := hp_3
    rw [e1, e2] at hw; clear e1 e2
    refine lv_if_eq (tgt := 27) hx hb dX8_begins_22 (by decide) (fun c_4 => ?_) (fun c_4 => ?_)
    · skip
      have c_4 := bI_f c_4
      refine lv_aload_n hx hb dX8_begins_27 rfl (lv_at hl 1 rfl) ?_
      refine s_get (a := 0) (b := 7) (ci := 6) X hw rfl rfl gX8 0 (by decide) fl_X8_10 rfl rfl dX8_begins_28 ?_
      refine lv_iload hx hb dX8_begins_31 (lv_at hl 0 rfl) ?_
      refine lv_iconst (v := 0) hx hb dX8_begins_33 (by decide) ?_
      refine m_callv (m_runV (i := nm 0 8) (ci := 4) (As := [.int (100 + k), .int 0]) (rest := []) X (k_F6_replace Γ l L x 0 8 h d (100 + k) 0 pO8 (by omega)) v_X6_replace ml_X8_124 hw hS (p_obj Γ L (c := sP x 0 8 (h, d)) pO8) rfl rfl rfl hl.1 ⟨Nat.le_of_ble_eq_true rfl, Nat.le_of_ble_eq_true rfl⟩ (Nat.le_of_ble_eq_true rfl) ⟨Nat.le_of_ble_eq_true rfl, Nat.le_of_ble_eq_true rfl⟩ dX8_begins_34) hS (fun L1 M1 H locs hp_5 hw hS => ?_)
      obtain ⟨e1, e2⟩ := hp_5
      rw [e1, e2] at hw; clear e1 e2
      refine lv_aload_n hx hb dX8_begins_37 rfl (lv_at hl 1 rfl) ?_
      refine s_get (a := 0) (b := 7) (ci := 6) X hw rfl rfl gX8 0 (by decide) fl_X8_10 rfl rfl dX8_begins_38 ?_
      refine lv_iload hx hb dX8_begins_41 (lv_at hl 0 rfl) ?_
      refine m_calli (m_runV (i := nm 0 8) (ci := 4) (As := [.int (100 + k)]) (rest := []) X (k_F6_push Γ l L x 0 8 (p_repl h (100 + k) 0 (8 + d)) d (100 + k) pO8 (by omega)) v_X6_push ml_X8_74 hw hS (p_obj Γ L (c := sP x 0 8 (p_repl h (100 + k) 0 (8 + d), d)) pO8) rfl rfl rfl hl.1 ⟨Nat.le_of_ble_eq_true rfl, Nat.le_of_ble_eq_true rfl⟩ (Nat.le_of_ble_eq_true rfl) ⟨Nat.le_of_ble_eq_true rfl, Nat.le_of_ble_eq_true rfl⟩ dX8_begins_43) hS (fun r_6 L1 M1 H locs hp_6 hw hS => ?_)
      obtain ⟨⟨h_6, d_6⟩, hd_6, e1, e2, hm_6⟩ := hp_6
      have hd_6 : d_6 ≤ 8 := hd_6
      rw [e1, e2] at hw; clear e1 e2
      have hm_6 : mFo (p_push (p_repl h (100 + k) 0 (8 + d), d) (100 + k)) r_6 (h_6, d_6) := hm_6
      cases ho_6 : p_push (p_repl h (100 + k) 0 (8 + d), d) (100 + k) with
      | none =>
        rw [ho_6] at hm_6
        have hm_6 : r_6 = 0 := hm_6
        subst hm_6
        exact m_zret (b := false) X hr hlk hw hS (Nat.le_of_ble_eq_true rfl) (Nat.le_of_ble_eq_true rfl) rfl ⟨(h_6, d_6), by show d_6 ≤ 8; omega, rfl, rfl, (by unfold p_new; rw [if_pos (show r_isIn v 1 5 = true from (show k_cls v = true by assumption)), if_neg (by rw [show p_holds h (100 + k) d = false by assumption]; decide)]; show mFo (p_push (p_repl h (100 + k) 0 8, d) (100 + k)) _ _; rw [← new_repl (by assumption), ho_6]; exact mFo.n)⟩ dX8_begins_46
      | some z_6 =>
        rw [ho_6] at hm_6
        have hm_6 : r_6 = 1 ∧ (h_6, d_6) = z_6 := hm_6
        obtain ⟨e3, e4⟩ := hm_6
        subst e3; subst e4
        exact m_zret (b := true) X hr hlk hw hS (Nat.le_of_ble_eq_true rfl) (Nat.le_of_ble_eq_true rfl) rfl ⟨(h_6, d_6), by show d_6 ≤ 8; omega, rfl, rfl, (by unfold p_new; rw [if_pos (show r_isIn v 1 5 = true from (show k_cls v = true by assumption)), if_neg (by rw [show p_holds h (100 + k) d = false by assumption]; decide)]; show mFo (p_push (p_repl h (100 + k) 0 8, d) (100 + k)) _ _; rw [← new_repl (by assumption), ho_6]; exact mFo.s)⟩ dX8_begins_46
    · skip
      have c_4 := bI_t c_4
      refine lv_iconst (v := 0) hx hb dX8_begins_25 (by decide) ?_
      exact m_zret (b := false) X hr hlk hw hS (Nat.le_of_ble_eq_true rfl) (Nat.le_of_ble_eq_true rfl) rfl ⟨(h, d), by show d ≤ 8; omega, rfl, rfl, (by unfold p_new; first | (rw [if_neg (show ¬ r_isIn v 1 5 = true from (fun z9 => absurd (show k_cls v = true from z9) (by rw [show k_cls v = false by assumption]; decide)))]; exact mFo.n) | (rw [if_pos (show r_isIn v 1 5 = true from (show k_cls v = true by assumption)), if_pos (by assumption)]; exact mFo.n))⟩ dX8_begins_26
set_option maxHeartbeats 4000000 in
set_option maxRecDepth 100000 in
theorem k_F8_takes (Γ : mG) (l : Launch) (L : mI → Nat) (x : CS) (h : Nat → Int32) (d : Nat) (k : Int32) (hd : d ≤ 8) (ok : okP (h, d)) : mMet Γ l yX8_takes cX8_takes 2 (some .boolean) { frames := 1, cells := 0, slots := 0, locals := 21 } [.ref (L (nm 0 7)), .int k] L (cM Γ L (sP x 0 8 (h, d))) (mQi Γ (mFz Γ L x 0 8 (f_tak k (h, d)))) := by
  refine m_start (by decide) (Nat.le_of_ble_eq_true rfl) ?_
  intro p e s m args below meth c A ls X hr hlk hnm hw hS hl
  have hx := X.1.1
  have hb := X.1.2.1
  have hl : lv_has ls 2 [(0, .ref (L (nm 0 7))), (1, .int k)] := hl
  refine lv_iload_n hx hb dX8_takes_0 rfl (lv_at hl 1 rfl) ?_
  refine lv_iconst (v := 4) hx hb dX8_takes_1 (by decide) ?_
  refine lv_icmp_ne (tgt := 14) hx hb dX8_takes_2 (by decide) (fun c_1 => ?_) (fun c_1 => ?_)
  · skip
    refine lv_iload_n hx hb dX8_takes_14 rfl (lv_at hl 1 rfl) ?_
    refine m_calli (m_runS (As := [.int k]) (rest := []) X (k_X3_isRow Γ l L (cM Γ L (sP x 0 8 (h, d))) k) s_X3_isRow ml_X8_136 hw hS rfl hl.1 ⟨Nat.le_of_ble_eq_true rfl, Nat.le_of_ble_eq_true rfl⟩ (Nat.le_of_ble_eq_true rfl) ⟨Nat.le_of_ble_eq_true rfl, Nat.le_of_ble_eq_true rfl⟩ dX8_takes_15) hS (fun r_2 L1 M1 H locs hp_2 hw hS => ?_)
    obtain ⟨rfl, e1, e2⟩ := hp_2
    rw [e1, e2] at hw; clear e1 e2
    refine lv_if_eq (tgt := 42) hx hb dX8_takes_18 (by decide) (fun c_3 => ?_) (fun c_3 => ?_)
    · skip
      have c_3 := bI_f c_3
      refine lv_iconst (v := 0) hx hb dX8_takes_42 (by decide) ?_
      exact m_zret (b := false) X hr hlk hw hS (Nat.le_of_ble_eq_true rfl) (Nat.le_of_ble_eq_true rfl) rfl ⟨(h, d), by show d ≤ 8; omega, rfl, rfl, (by unfold f_tak; rw [if_neg (by assumption), if_neg (by rw [show k_row k = false by assumption]; decide)]; exact mFo.n)⟩ dX8_takes_43
    · skip
      have c_3 := bI_t c_3
      refine lv_aload_n hx hb dX8_takes_21 rfl (lv_at hl 0 rfl) ?_
      refine s_get (a := 0) (b := 7) (ci := 6) X hw rfl rfl gX8 0 (by decide) fl_X8_10 rfl rfl dX8_takes_22 ?_
      refine lv_iload_n hx hb dX8_takes_25 rfl (lv_at hl 1 rfl) ?_
      refine lv_bipush (v := 20) hx hb dX8_takes_26 (by decide) ?_
      refine lv_isub hx hb dX8_takes_28 ?_
      refine lv_bipush (v := 10) hx hb dX8_takes_29 (by decide) ?_
      refine lv_iadd hx hb dX8_takes_31 ?_
      refine m_calli (m_runV (i := nm 0 8) (ci := 4) (As := [.int ((k - 20) + 10)]) (rest := []) X (k_F6_push Γ l L x 0 8 h d ((k - 20) + 10) pO8 (by omega)) v_X6_push ml_X8_74 hw hS (p_obj Γ L (c := sP x 0 8 (h, d)) pO8) rfl rfl rfl hl.1 ⟨Nat.le_of_ble_eq_true rfl, Nat.le_of_ble_eq_true rfl⟩ (Nat.le_of_ble_eq_true rfl) ⟨Nat.le_of_ble_eq_true rfl, Nat.le_of_ble_eq_true rfl⟩ dX8_takes_32) hS (fun r_4 L1 M1 H locs hp_4 hw hS => ?_)
      obtain ⟨⟨h_4, d_4⟩, hd_4, e1, e2, hm_4⟩ := hp_4
      have hd_4 : d_4 ≤ 8 := hd_4
      rw [e1, e2] at hw; clear e1 e2
      have hm_4 : mFo (p_push (h, d) ((k - 20) + 10)) r_4 (h_4, d_4) := hm_4
      cases ho_4 : p_push (h, d) ((k - 20) + 10) with
      | none =>
        rw [ho_4] at hm_4
        have hm_4 : r_4 = 0 := hm_4
        subst hm_4
        refine lv_if_eq (tgt := 42) hx hb dX8_takes_35 (by decide) (fun _ => ?_) (fun h => absurd rfl h)
        refine lv_iconst (v := 0) hx hb dX8_takes_42 (by decide) ?_
        exact m_zret (b := false) X hr hlk hw hS (Nat.le_of_ble_eq_true rfl) (Nat.le_of_ble_eq_true rfl) rfl ⟨(h_4, d_4), by show d_4 ≤ 8; omega, rfl, rfl, (by unfold f_tak; first | (rw [if_pos (by assumption), ho_4]; exact mFo.n) | (rw [if_neg (by assumption), if_pos (by assumption), ho_4]; exact mFo.n))⟩ dX8_takes_43
      | some z_4 =>
        rw [ho_4] at hm_4
        have hm_4 : r_4 = 1 ∧ (h_4, d_4) = z_4 := hm_4
        obtain ⟨e3, e4⟩ := hm_4
        subst e3; subst e4
        refine lv_if_eq (tgt := 42) hx hb dX8_takes_35 (by decide) (fun h => absurd h (by decide)) (fun _ => ?_)
        refine lv_iconst (v := 1) hx hb dX8_takes_38 (by decide) ?_
        refine lv_goto (tgt := 43) hx hb dX8_takes_39 (by decide) ?_
        exact m_zret (b := true) X hr hlk hw hS (Nat.le_of_ble_eq_true rfl) (Nat.le_of_ble_eq_true rfl) rfl ⟨(h_4, d_4), by show d_4 ≤ 8; omega, rfl, rfl, (by unfold f_tak; first | (rw [if_pos (by assumption), ho_4]; exact mFo.s) | (rw [if_neg (by assumption), if_pos (by assumption), ho_4]; exact mFo.s))⟩ dX8_takes_43
  · skip
    refine lv_aload_n hx hb dX8_takes_5 rfl (lv_at hl 0 rfl) ?_
    refine s_get (a := 0) (b := 7) (ci := 6) X hw rfl rfl gX8 0 (by decide) fl_X8_10 rfl rfl dX8_takes_6 ?_
    refine lv_iconst (v := 4) hx hb dX8_takes_9 (by decide) ?_
    refine m_calli (m_runV (i := nm 0 8) (ci := 4) (As := [.int 4]) (rest := []) X (k_F6_push Γ l L x 0 8 h d 4 pO8 (by omega)) v_X6_push ml_X8_74 hw hS (p_obj Γ L (c := sP x 0 8 (h, d)) pO8) rfl rfl rfl hl.1 ⟨Nat.le_of_ble_eq_true rfl, Nat.le_of_ble_eq_true rfl⟩ (Nat.le_of_ble_eq_true rfl) ⟨Nat.le_of_ble_eq_true rfl, Nat.le_of_ble_eq_true rfl⟩ dX8_takes_10) hS (fun r_7 L1 M1 H locs hp_7 hw hS => ?_)
    obtain ⟨⟨h_7, d_7⟩, hd_7, e1, e2, hm_7⟩ := hp_7
    have hd_7 : d_7 ≤ 8 := hd_7
    rw [e1, e2] at hw; clear e1 e2
    have hm_7 : mFo (p_push (h, d) 4) r_7 (h_7, d_7) := hm_7
    cases ho_7 : p_push (h, d) 4 with
    | none =>
      rw [ho_7] at hm_7
      have hm_7 : r_7 = 0 := hm_7
      subst hm_7
      exact m_zret (b := false) X hr hlk hw hS (Nat.le_of_ble_eq_true rfl) (Nat.le_of_ble_eq_true rfl) rfl ⟨(h_7, d_7), by show d_7 ≤ 8; omega, rfl, rfl, (by unfold f_tak; first | (rw [if_pos (by assumption), ho_7]; exact mFo.n) | (rw [if_neg (by assumption), if_pos (by assumption), ho_7]; exact mFo.n))⟩ dX8_takes_13
    | some z_7 =>
      rw [ho_7] at hm_7
      have hm_7 : r_7 = 1 ∧ (h_7, d_7) = z_7 := hm_7
      obtain ⟨e3, e4⟩ := hm_7
      subst e3; subst e4
      exact m_zret (b := true) X hr hlk hw hS (Nat.le_of_ble_eq_true rfl) (Nat.le_of_ble_eq_true rfl) rfl ⟨(h_7, d_7), by show d_7 ≤ 8; omega, rfl, rfl, (by unfold f_tak; first | (rw [if_pos (by assumption), ho_7]; exact mFo.s) | (rw [if_neg (by assumption), if_pos (by assumption), ho_7]; exact mFo.s))⟩ dX8_takes_13
set_option maxHeartbeats 4000000 in
set_option maxRecDepth 100000 in
theorem k_F8_usesArray (Γ : mG) (l : Launch) (L : mI → Nat) (x : CS) (h : Nat → Int32) (d : Nat) (o : Int32) (v : Int64) (hd : d ≤ 8) (ok : okP (h, d)) : mMet Γ l yX8_usesArray cX8_usesArray 4 (some .boolean) { frames := 3, cells := 0, slots := 0, locals := 63 } [.ref (L (nm 0 7)), .int o, .long v] L (cM Γ L (sP x 0 8 (h, d))) (mQi Γ (mFz Γ L x 0 8 (f_arr o v (h, d)))) := by
  refine m_start (by decide) (Nat.le_of_ble_eq_true rfl) ?_
  intro p e s m args below meth c A ls X hr hlk hnm hw hS hl
  have hx := X.1.1
  have hb := X.1.2.1
  have hl : lv_has ls 4 [(0, .ref (L (nm 0 7))), (1, .int o), (2, .long v)] := hl
  refine lv_iload_n hx hb dX8_usesArray_0 rfl (lv_at hl 1 rfl) ?_
  by_cases c_1 : o.toInt < 14 ∨ 19 < o.toInt
  · refine lv_tableOut (tgt := 254) hx hb dX8_usesArray_1 c_1 (by decide) ?_
    refine lv_aload_n hx hb dX8_usesArray_254 rfl (lv_at hl 0 rfl) ?_
    refine s_get (a := 0) (b := 7) (ci := 6) X hw rfl rfl gX8 0 (by decide) fl_X8_10 rfl rfl dX8_usesArray_255 ?_
    refine lv_bipush (v := 10) hx hb dX8_usesArray_258 (by decide) ?_
    refine m_calli (m_runV (i := nm 0 8) (ci := 4) (As := [.int 10]) (rest := []) X (k_F6_pop Γ l L x 0 8 h d 10 pO8 (by omega) ok (by decide) (by decide)) v_X6_pop ml_X8_115 hw hS (p_obj Γ L (c := sP x 0 8 (h, d)) pO8) rfl rfl rfl hl.1 ⟨Nat.le_of_ble_eq_true rfl, Nat.le_of_ble_eq_true rfl⟩ (Nat.le_of_ble_eq_true rfl) ⟨Nat.le_of_ble_eq_true rfl, Nat.le_of_ble_eq_true rfl⟩ dX8_usesArray_260) hS (fun r_2 L1 M1 H locs hp_2 hw hS => ?_)
    obtain ⟨⟨h_2, d_2⟩, hd_2, e1, e2, hm_2, hz_2⟩ := hp_2
    have hd_2 : d_2 ≤ 8 := hd_2
    rw [e1, e2] at hw; clear e1 e2
    have hm_2 : mFo (p_pop (h, d) 10) r_2 (h_2, d_2) := hm_2
    cases ho_2 : p_pop (h, d) 10 with
    | none =>
      rw [ho_2] at hm_2
      have hm_2 : r_2 = 0 := hm_2
      subst hm_2
      have hw : mW Γ.1 vwCl A L (cM Γ L (sP x 0 8 (h, d))) H := by rw [hz_2 ho_2] at hw; exact hw
      refine lv_if_eq (tgt := 291) hx hb dX8_usesArray_263 (by decide) (fun _ => ?_) (fun h => absurd rfl h)
      refine lv_iconst (v := 0) hx hb dX8_usesArray_291 (by decide) ?_
      exact m_zret (b := false) X hr hlk hw hS (Nat.le_of_ble_eq_true rfl) (Nat.le_of_ble_eq_true rfl) rfl ⟨(h, d), by show d ≤ 8; omega, rfl, rfl, (by first | (refine (fun (e9 : o = 14) => ?_) (by assumption); subst e9; show mFo (p_14 (h, d)) _ _; unfold p_14; first | (rw [ho_2]; exact mFo.n) | (rw [b_n ho_2]; exact mFo.n)) | (refine (fun (e9 : o = 15) => ?_) (by assumption); subst e9; show mFo (p_15 v (h, d)) _ _; unfold p_15; rw [if_pos (show r_isIn v 1 5 = true from (show k_cls v = true by assumption))]; first | (rw [ho_2]; exact mFo.n) | (rw [b_n ho_2]; exact mFo.n)) | (refine (fun (e9 : o = 17) => ?_) (by assumption); subst e9; show mFo (p_17 (h, d)) _ _; unfold p_17; first | (rw [ho_2]; exact mFo.n) | (rw [b_n ho_2]; exact mFo.n)) | (refine (fun (e9 : o = 18) => ?_) (by assumption); subst e9; show mFo (p_18 (h, d)) _ _; unfold p_18; first | (rw [ho_2]; exact mFo.n) | (rw [b_n ho_2]; exact mFo.n)) | (refine (fun (e9 : o = 19) => ?_) (by assumption); subst e9; show mFo (p_19 (h, d)) _ _; unfold p_19; first | (rw [ho_2]; exact mFo.n) | (rw [b_n ho_2]; exact mFo.n)) | (rw [f_arr_d (by assumption)]; unfold p_20; first | (rw [ho_2]; exact mFo.n) | (rw [b_n ho_2]; exact mFo.n)))⟩ dX8_usesArray_292
    | some z_2 =>
      rw [ho_2] at hm_2
      have hm_2 : r_2 = 1 ∧ (h_2, d_2) = z_2 := hm_2
      obtain ⟨e3, e4⟩ := hm_2
      subst e3; subst e4
      have ok_2 : okP (h_2, d_2) := ok_pop ok _ ho_2
      refine lv_if_eq (tgt := 291) hx hb dX8_usesArray_263 (by decide) (fun h => absurd h (by decide)) (fun _ => ?_)
      refine lv_aload_n hx hb dX8_usesArray_266 rfl (lv_at hl 0 rfl) ?_
      refine s_get (a := 0) (b := 7) (ci := 6) X hw rfl rfl gX8 0 (by decide) fl_X8_10 rfl rfl dX8_usesArray_267 ?_
      refine lv_iconst (v := 1) hx hb dX8_usesArray_270 (by decide) ?_
      refine m_calli (m_runV (i := nm 0 8) (ci := 4) (As := [.int 1]) (rest := []) X (k_F6_pop Γ l L x 0 8 h_2 d_2 1 pO8 (by omega) ok_2 (by decide) (by decide)) v_X6_pop ml_X8_115 hw hS (p_obj Γ L (c := sP x 0 8 (h_2, d_2)) pO8) rfl rfl rfl hl.1 ⟨Nat.le_of_ble_eq_true rfl, Nat.le_of_ble_eq_true rfl⟩ (Nat.le_of_ble_eq_true rfl) ⟨Nat.le_of_ble_eq_true rfl, Nat.le_of_ble_eq_true rfl⟩ dX8_usesArray_271) hS (fun r_5 L1 M1 H locs hp_5 hw hS => ?_)
      obtain ⟨⟨h_5, d_5⟩, hd_5, e1, e2, hm_5, hz_5⟩ := hp_5
      have hd_5 : d_5 ≤ 8 := hd_5
      rw [e1, e2] at hw; clear e1 e2
      have hm_5 : mFo (p_pop (h_2, d_2) 1) r_5 (h_5, d_5) := hm_5
      cases ho_5 : p_pop (h_2, d_2) 1 with
      | none =>
        rw [ho_5] at hm_5
        have hm_5 : r_5 = 0 := hm_5
        subst hm_5
        have hw : mW Γ.1 vwCl A L (cM Γ L (sP x 0 8 (h_2, d_2))) H := by rw [hz_5 ho_5] at hw; exact hw
        refine lv_if_eq (tgt := 291) hx hb dX8_usesArray_274 (by decide) (fun _ => ?_) (fun h => absurd rfl h)
        refine lv_iconst (v := 0) hx hb dX8_usesArray_291 (by decide) ?_
        exact m_zret (b := false) X hr hlk hw hS (Nat.le_of_ble_eq_true rfl) (Nat.le_of_ble_eq_true rfl) rfl ⟨(h_2, d_2), by show d_2 ≤ 8; omega, rfl, rfl, (by first | (refine (fun (e9 : o = 14) => ?_) (by assumption); subst e9; show mFo (p_14 (h, d)) _ _; unfold p_14; first | (rw [b_s ho_2, ho_5]; exact mFo.n) | (rw [b_s ho_2, b_n ho_5]; exact mFo.n)) | (refine (fun (e9 : o = 15) => ?_) (by assumption); subst e9; show mFo (p_15 v (h, d)) _ _; unfold p_15; rw [if_pos (show r_isIn v 1 5 = true from (show k_cls v = true by assumption))]; first | (rw [b_s ho_2, ho_5]; exact mFo.n) | (rw [b_s ho_2, b_n ho_5]; exact mFo.n)) | (refine (fun (e9 : o = 16) => ?_) (by assumption); subst e9; show mFo (p_16 (h, d)) _ _; rw [p16_a ok ho_2, ho_5]; exact mFo.n) | (refine (fun (e9 : o = 17) => ?_) (by assumption); subst e9; show mFo (p_17 (h, d)) _ _; unfold p_17; first | (rw [b_s ho_2, ho_5]; exact mFo.n) | (rw [b_s ho_2, b_n ho_5]; exact mFo.n)) | (refine (fun (e9 : o = 18) => ?_) (by assumption); subst e9; show mFo (p_18 (h, d)) _ _; unfold p_18; first | (rw [b_s ho_2, ho_5]; exact mFo.n) | (rw [b_s ho_2, b_n ho_5]; exact mFo.n)) | (refine (fun (e9 : o = 19) => ?_) (by assumption); subst e9; show mFo (p_19 (h, d)) _ _; unfold p_19; first | (rw [b_s ho_2, ho_5]; exact mFo.n) | (rw [b_s ho_2, b_n ho_5]; exact mFo.n)) | (rw [f_arr_d (by assumption)]; unfold p_20; first | (rw [b_s ho_2, ho_5]; exact mFo.n) | (rw [b_s ho_2, b_n ho_5]; exact mFo.n)))⟩ dX8_usesArray_292
      | some z_5 =>
        rw [ho_5] at hm_5
        have hm_5 : r_5 = 1 ∧ (h_5, d_5) = z_5 := hm_5
        obtain ⟨e3, e4⟩ := hm_5
        subst e3; subst e4
        have ok_5 : okP (h_5, d_5) := ok_pop ok_2 _ ho_5
        refine lv_if_eq (tgt := 291) hx hb dX8_usesArray_274 (by decide) (fun h => absurd h (by decide)) (fun _ => ?_)
        refine lv_aload_n hx hb dX8_usesArray_277 rfl (lv_at hl 0 rfl) ?_
        refine s_get (a := 0) (b := 7) (ci := 6) X hw rfl rfl gX8 0 (by decide) fl_X8_10 rfl rfl dX8_usesArray_278 ?_
        refine m_calli (m_runV (i := nm 0 8) (ci := 4) (As := []) (rest := []) X (k_F6_popRow Γ l L x 0 8 h_5 d_5  pO8 (by omega)) v_X6_popRow ml_X8_130 hw hS (p_obj Γ L (c := sP x 0 8 (h_5, d_5)) pO8) rfl rfl rfl hl.1 ⟨Nat.le_of_ble_eq_true rfl, Nat.le_of_ble_eq_true rfl⟩ (Nat.le_of_ble_eq_true rfl) ⟨Nat.le_of_ble_eq_true rfl, Nat.le_of_ble_eq_true rfl⟩ dX8_usesArray_281) hS (fun r_8 L1 M1 H locs hp_8 hw hS => ?_)
        obtain ⟨e1, er_8, e2⟩ := hp_8
        rw [e1, e2] at hw; clear e1 e2
        by_cases po_8 : ¬ d_5 = 0 ∧ p_isRowN (h_5 (7 + d_5)) = true
        · rw [f_row_y po_8] at er_8 hw
          have er_8 : r_8 = h_5 (7 + d_5) := er_8
          subst er_8
          have hpos_8 : 0 < d_5 := f_row_y_p po_8
          have hw : mW Γ.1 vwCl A L (cM Γ L (sP x 0 8 (h_5, d_5 - 1))) H := hw
          have ok_8 : okP (h_5, d_5 - 1) := ok_dropn (q := (h_5, d_5)) (n := 1) ok_5
          refine lv_if_eq (tgt := 291) hx hb dX8_usesArray_284 (by decide) (fun c_9 => ?_) (fun c_9 => ?_)
          · skip
            refine lv_iconst (v := 0) hx hb dX8_usesArray_291 (by decide) ?_
            exact m_zret (b := false) X hr hlk hw hS (Nat.le_of_ble_eq_true rfl) (Nat.le_of_ble_eq_true rfl) rfl ⟨(h_5, d_5 - 1), by show d_5 - 1 ≤ 8; omega, rfl, rfl, (by first | (exact absurd (by assumption) (row_n0 po_8)) | (refine (fun (e9 : o = 14) => ?_) (by assumption); subst e9; show mFo (p_14 (h, d)) _ _; unfold p_14; first | (rw [b_s ho_2, ho_5]; exact mFo.n) | (rw [b_s ho_2, b_s ho_5]; exact mFo.n)) | (refine (fun (e9 : o = 15) => ?_) (by assumption); subst e9; show mFo (p_15 v (h, d)) _ _; unfold p_15; rw [if_pos (show r_isIn v 1 5 = true from (show k_cls v = true by assumption))]; first | (rw [b_s ho_2, ho_5]; exact mFo.n) | (rw [b_s ho_2, b_s ho_5]; exact mFo.n)) | (refine (fun (e9 : o = 16) => ?_) (by assumption); subst e9; show mFo (p_16 (h, d)) _ _; rw [p16_a ok ho_2, ho_5]; exact mFo.n) | (refine (fun (e9 : o = 17) => ?_) (by assumption); subst e9; show mFo (p_17 (h, d)) _ _; unfold p_17; first | (rw [b_s ho_2, ho_5]; exact mFo.n) | (rw [b_s ho_2, b_s ho_5]; exact mFo.n)) | (refine (fun (e9 : o = 18) => ?_) (by assumption); subst e9; show mFo (p_18 (h, d)) _ _; unfold p_18; first | (rw [b_s ho_2, ho_5]; exact mFo.n) | (rw [b_s ho_2, b_s ho_5]; exact mFo.n)) | (refine (fun (e9 : o = 19) => ?_) (by assumption); subst e9; show mFo (p_19 (h, d)) _ _; unfold p_19; rw [b_s ho_2, if_pos po_8]; show mFo (p_push (h_2, d_2 - 1) (if h_2 (7 + d_2) = 4 then 4 else 10 + h_2 (7 + d_2) - 20)) _ _; rw [← tak_y po_8.2, ho_5]; exact mFo.n) | (rw [f_arr_d (by assumption)]; unfold p_20; rw [b_s ho_2, b_s ho_5, if_pos po_8]; exact mFo.s))⟩ dX8_usesArray_292
          · skip
            refine lv_iconst (v := 1) hx hb dX8_usesArray_287 (by decide) ?_
            refine lv_goto (tgt := 292) hx hb dX8_usesArray_288 (by decide) ?_
            exact m_zret (b := true) X hr hlk hw hS (Nat.le_of_ble_eq_true rfl) (Nat.le_of_ble_eq_true rfl) rfl ⟨(h_5, d_5 - 1), by show d_5 - 1 ≤ 8; omega, rfl, rfl, (by first | (refine (fun (e9 : o = 14) => ?_) (by assumption); subst e9; show mFo (p_14 (h, d)) _ _; unfold p_14; first | (rw [b_s ho_2, ho_5]; exact mFo.s) | (rw [b_s ho_2, b_s ho_5]; exact mFo.s)) | (refine (fun (e9 : o = 15) => ?_) (by assumption); subst e9; show mFo (p_15 v (h, d)) _ _; unfold p_15; rw [if_pos (show r_isIn v 1 5 = true from (show k_cls v = true by assumption))]; first | (rw [b_s ho_2, ho_5]; exact mFo.s) | (rw [b_s ho_2, b_s ho_5]; exact mFo.s)) | (refine (fun (e9 : o = 16) => ?_) (by assumption); subst e9; show mFo (p_16 (h, d)) _ _; rw [p16_a ok ho_2, ho_5]; exact mFo.s) | (refine (fun (e9 : o = 17) => ?_) (by assumption); subst e9; show mFo (p_17 (h, d)) _ _; unfold p_17; first | (rw [b_s ho_2, ho_5]; exact mFo.s) | (rw [b_s ho_2, b_s ho_5]; exact mFo.s)) | (refine (fun (e9 : o = 18) => ?_) (by assumption); subst e9; show mFo (p_18 (h, d)) _ _; unfold p_18; first | (rw [b_s ho_2, ho_5]; exact mFo.s) | (rw [b_s ho_2, b_s ho_5]; exact mFo.s)) | (refine (fun (e9 : o = 19) => ?_) (by assumption); subst e9; show mFo (p_19 (h, d)) _ _; unfold p_19; rw [b_s ho_2, if_pos po_8]; show mFo (p_push (h_2, d_2 - 1) (if h_2 (7 + d_2) = 4 then 4 else 10 + h_2 (7 + d_2) - 20)) _ _; rw [← tak_y po_8.2, ho_5]; exact mFo.s) | (rw [f_arr_d (by assumption)]; unfold p_20; rw [b_s ho_2, b_s ho_5, if_pos po_8]; exact mFo.s))⟩ dX8_usesArray_292
        · rw [f_row_x po_8] at er_8 hw
          have er_8 : r_8 = 0 := er_8
          subst er_8
          have hw : mW Γ.1 vwCl A L (cM Γ L (sP x 0 8 (h_5, d_5))) H := hw
          refine lv_if_eq (tgt := 291) hx hb dX8_usesArray_284 (by decide) (fun _ => ?_) (fun h => absurd rfl h)
          refine lv_iconst (v := 0) hx hb dX8_usesArray_291 (by decide) ?_
          exact m_zret (b := false) X hr hlk hw hS (Nat.le_of_ble_eq_true rfl) (Nat.le_of_ble_eq_true rfl) rfl ⟨(h_5, d_5), by show d_5 ≤ 8; omega, rfl, rfl, (by first | (refine (fun (e9 : o = 14) => ?_) (by assumption); subst e9; show mFo (p_14 (h, d)) _ _; unfold p_14; first | (rw [b_s ho_2, ho_5]; exact mFo.n) | (rw [b_s ho_2, b_s ho_5]; exact mFo.n)) | (refine (fun (e9 : o = 15) => ?_) (by assumption); subst e9; show mFo (p_15 v (h, d)) _ _; unfold p_15; rw [if_pos (show r_isIn v 1 5 = true from (show k_cls v = true by assumption))]; first | (rw [b_s ho_2, ho_5]; exact mFo.n) | (rw [b_s ho_2, b_s ho_5]; exact mFo.n)) | (refine (fun (e9 : o = 16) => ?_) (by assumption); subst e9; show mFo (p_16 (h, d)) _ _; rw [p16_a ok ho_2, ho_5]; exact mFo.n) | (refine (fun (e9 : o = 17) => ?_) (by assumption); subst e9; show mFo (p_17 (h, d)) _ _; unfold p_17; first | (rw [b_s ho_2, ho_5]; exact mFo.n) | (rw [b_s ho_2, b_s ho_5]; exact mFo.n)) | (refine (fun (e9 : o = 18) => ?_) (by assumption); subst e9; show mFo (p_18 (h, d)) _ _; unfold p_18; first | (rw [b_s ho_2, ho_5]; exact mFo.n) | (rw [b_s ho_2, b_s ho_5]; exact mFo.n)) | (refine (fun (e9 : o = 19) => ?_) (by assumption); subst e9; show mFo (p_19 (h, d)) _ _; rw [tak_n] at ho_5; cases ho_5) | (rw [f_arr_d (by assumption)]; unfold p_20; rw [b_s ho_2, b_s ho_5, if_neg po_8]; exact mFo.n))⟩ dX8_usesArray_292
  · have c_1b : o.toInt = 14 ∨ o.toInt = 15 ∨ o.toInt = 16 ∨ o.toInt = 17 ∨ o.toInt = 18 ∨ o.toInt = 19 := by omega
    rcases c_1b with c_1v | c_1v | c_1v | c_1v | c_1v | c_1v
    · have c_1e : o = 14 := Int32.toInt_inj.mp c_1v
      refine lv_tableIn (off := 39) (tgt := 40) hx hb dX8_usesArray_1 (by omega) (by omega) (by rw [c_1v]; rfl) (by decide) ?_
      refine lv_aload_n hx hb dX8_usesArray_40 rfl (lv_at hl 0 rfl) ?_
      refine s_get (a := 0) (b := 7) (ci := 6) X hw rfl rfl gX8 0 (by decide) fl_X8_10 rfl rfl dX8_usesArray_41 ?_
      refine lv_iconst (v := 1) hx hb dX8_usesArray_44 (by decide) ?_
      refine m_calli (m_runV (i := nm 0 8) (ci := 4) (As := [.int 1]) (rest := []) X (k_F6_pop Γ l L x 0 8 h d 1 pO8 (by omega) ok (by decide) (by decide)) v_X6_pop ml_X8_115 hw hS (p_obj Γ L (c := sP x 0 8 (h, d)) pO8) rfl rfl rfl hl.1 ⟨Nat.le_of_ble_eq_true rfl, Nat.le_of_ble_eq_true rfl⟩ (Nat.le_of_ble_eq_true rfl) ⟨Nat.le_of_ble_eq_true rfl, Nat.le_of_ble_eq_true rfl⟩ dX8_usesArray_45) hS (fun r_11 L1 M1 H locs hp_11 hw hS => ?_)
      obtain ⟨⟨h_11, d_11⟩, hd_11, e1, e2, hm_11, hz_11⟩ := hp_11
      have hd_11 : d_11 ≤ 8 := hd_11
      rw [e1, e2] at hw; clear e1 e2
      have hm_11 : mFo (p_pop (h, d) 1) r_11 (h_11, d_11) := hm_11
      cases ho_11 : p_pop (h, d) 1 with
      | none =>
        rw [ho_11] at hm_11
        have hm_11 : r_11 = 0 := hm_11
        subst hm_11
        have hw : mW Γ.1 vwCl A L (cM Γ L (sP x 0 8 (h, d))) H := by rw [hz_11 ho_11] at hw; exact hw
        refine lv_if_eq (tgt := 66) hx hb dX8_usesArray_48 (by decide) (fun _ => ?_) (fun h => absurd rfl h)
        refine lv_iconst (v := 0) hx hb dX8_usesArray_66 (by decide) ?_
        exact m_zret (b := false) X hr hlk hw hS (Nat.le_of_ble_eq_true rfl) (Nat.le_of_ble_eq_true rfl) rfl ⟨(h, d), by show d ≤ 8; omega, rfl, rfl, (by first | (refine (fun (e9 : o = 14) => ?_) (by assumption); subst e9; show mFo (p_14 (h, d)) _ _; unfold p_14; first | (rw [ho_11]; exact mFo.n) | (rw [b_n ho_11]; exact mFo.n)) | (refine (fun (e9 : o = 15) => ?_) (by assumption); subst e9; show mFo (p_15 v (h, d)) _ _; unfold p_15; rw [if_pos (show r_isIn v 1 5 = true from (show k_cls v = true by assumption))]; first | (rw [ho_11]; exact mFo.n) | (rw [b_n ho_11]; exact mFo.n)) | (refine (fun (e9 : o = 17) => ?_) (by assumption); subst e9; show mFo (p_17 (h, d)) _ _; unfold p_17; first | (rw [ho_11]; exact mFo.n) | (rw [b_n ho_11]; exact mFo.n)) | (refine (fun (e9 : o = 18) => ?_) (by assumption); subst e9; show mFo (p_18 (h, d)) _ _; unfold p_18; first | (rw [ho_11]; exact mFo.n) | (rw [b_n ho_11]; exact mFo.n)) | (refine (fun (e9 : o = 19) => ?_) (by assumption); subst e9; show mFo (p_19 (h, d)) _ _; unfold p_19; first | (rw [ho_11]; exact mFo.n) | (rw [b_n ho_11]; exact mFo.n)) | (rw [f_arr_d (by assumption)]; unfold p_20; first | (rw [ho_11]; exact mFo.n) | (rw [b_n ho_11]; exact mFo.n)))⟩ dX8_usesArray_67
      | some z_11 =>
        rw [ho_11] at hm_11
        have hm_11 : r_11 = 1 ∧ (h_11, d_11) = z_11 := hm_11
        obtain ⟨e3, e4⟩ := hm_11
        subst e3; subst e4
        have ok_11 : okP (h_11, d_11) := ok_pop ok _ ho_11
        refine lv_if_eq (tgt := 66) hx hb dX8_usesArray_48 (by decide) (fun h => absurd h (by decide)) (fun _ => ?_)
        refine lv_aload_n hx hb dX8_usesArray_51 rfl (lv_at hl 0 rfl) ?_
        refine s_get (a := 0) (b := 7) (ci := 6) X hw rfl rfl gX8 0 (by decide) fl_X8_10 rfl rfl dX8_usesArray_52 ?_
        refine lv_iconst (v := 5) hx hb dX8_usesArray_55 (by decide) ?_
        refine m_calli (m_runV (i := nm 0 8) (ci := 4) (As := [.int 5]) (rest := []) X (k_F6_push Γ l L x 0 8 h_11 d_11 5 pO8 (by omega)) v_X6_push ml_X8_74 hw hS (p_obj Γ L (c := sP x 0 8 (h_11, d_11)) pO8) rfl rfl rfl hl.1 ⟨Nat.le_of_ble_eq_true rfl, Nat.le_of_ble_eq_true rfl⟩ (Nat.le_of_ble_eq_true rfl) ⟨Nat.le_of_ble_eq_true rfl, Nat.le_of_ble_eq_true rfl⟩ dX8_usesArray_56) hS (fun r_14 L1 M1 H locs hp_14 hw hS => ?_)
        obtain ⟨⟨h_14, d_14⟩, hd_14, e1, e2, hm_14⟩ := hp_14
        have hd_14 : d_14 ≤ 8 := hd_14
        rw [e1, e2] at hw; clear e1 e2
        have hm_14 : mFo (p_push (h_11, d_11) 5) r_14 (h_14, d_14) := hm_14
        cases ho_14 : p_push (h_11, d_11) 5 with
        | none =>
          rw [ho_14] at hm_14
          have hm_14 : r_14 = 0 := hm_14
          subst hm_14
          refine lv_if_eq (tgt := 66) hx hb dX8_usesArray_59 (by decide) (fun _ => ?_) (fun h => absurd rfl h)
          refine lv_iconst (v := 0) hx hb dX8_usesArray_66 (by decide) ?_
          exact m_zret (b := false) X hr hlk hw hS (Nat.le_of_ble_eq_true rfl) (Nat.le_of_ble_eq_true rfl) rfl ⟨(h_14, d_14), by show d_14 ≤ 8; omega, rfl, rfl, (by first | (refine (fun (e9 : o = 14) => ?_) (by assumption); subst e9; show mFo (p_14 (h, d)) _ _; unfold p_14; first | (rw [b_s ho_11, ho_14]; exact mFo.n) | (rw [b_s ho_11, b_n ho_14]; exact mFo.n)) | (refine (fun (e9 : o = 15) => ?_) (by assumption); subst e9; show mFo (p_15 v (h, d)) _ _; unfold p_15; rw [if_pos (show r_isIn v 1 5 = true from (show k_cls v = true by assumption))]; first | (rw [b_s ho_11, ho_14]; exact mFo.n) | (rw [b_s ho_11, b_n ho_14]; exact mFo.n)) | (refine (fun (e9 : o = 16) => ?_) (by assumption); subst e9; show mFo (p_16 (h, d)) _ _; rw [p16_a ok ho_11, ho_14]; exact mFo.n) | (refine (fun (e9 : o = 17) => ?_) (by assumption); subst e9; show mFo (p_17 (h, d)) _ _; unfold p_17; first | (rw [b_s ho_11, ho_14]; exact mFo.n) | (rw [b_s ho_11, b_n ho_14]; exact mFo.n)) | (refine (fun (e9 : o = 18) => ?_) (by assumption); subst e9; show mFo (p_18 (h, d)) _ _; unfold p_18; first | (rw [b_s ho_11, ho_14]; exact mFo.n) | (rw [b_s ho_11, b_n ho_14]; exact mFo.n)) | (refine (fun (e9 : o = 19) => ?_) (by assumption); subst e9; show mFo (p_19 (h, d)) _ _; unfold p_19; first | (rw [b_s ho_11, ho_14]; exact mFo.n) | (rw [b_s ho_11, b_n ho_14]; exact mFo.n)) | (rw [f_arr_d (by assumption)]; unfold p_20; first | (rw [b_s ho_11, ho_14]; exact mFo.n) | (rw [b_s ho_11, b_n ho_14]; exact mFo.n)))⟩ dX8_usesArray_67
        | some z_14 =>
          rw [ho_14] at hm_14
          have hm_14 : r_14 = 1 ∧ (h_14, d_14) = z_14 := hm_14
          obtain ⟨e3, e4⟩ := hm_14
          subst e3; subst e4
          refine lv_if_eq (tgt := 66) hx hb dX8_usesArray_59 (by decide) (fun h => absurd h (by decide)) (fun _ => ?_)
          refine lv_iconst (v := 1) hx hb dX8_usesArray_62 (by decide) ?_
          refine lv_goto (tgt := 67) hx hb dX8_usesArray_63 (by decide) ?_
          exact m_zret (b := true) X hr hlk hw hS (Nat.le_of_ble_eq_true rfl) (Nat.le_of_ble_eq_true rfl) rfl ⟨(h_14, d_14), by show d_14 ≤ 8; omega, rfl, rfl, (by first | (refine (fun (e9 : o = 14) => ?_) (by assumption); subst e9; show mFo (p_14 (h, d)) _ _; unfold p_14; first | (rw [b_s ho_11, ho_14]; exact mFo.s) | (rw [b_s ho_11, b_s ho_14]; exact mFo.s)) | (refine (fun (e9 : o = 15) => ?_) (by assumption); subst e9; show mFo (p_15 v (h, d)) _ _; unfold p_15; rw [if_pos (show r_isIn v 1 5 = true from (show k_cls v = true by assumption))]; first | (rw [b_s ho_11, ho_14]; exact mFo.s) | (rw [b_s ho_11, b_s ho_14]; exact mFo.s)) | (refine (fun (e9 : o = 16) => ?_) (by assumption); subst e9; show mFo (p_16 (h, d)) _ _; rw [p16_a ok ho_11, ho_14]; exact mFo.s) | (refine (fun (e9 : o = 17) => ?_) (by assumption); subst e9; show mFo (p_17 (h, d)) _ _; unfold p_17; first | (rw [b_s ho_11, ho_14]; exact mFo.s) | (rw [b_s ho_11, b_s ho_14]; exact mFo.s)) | (refine (fun (e9 : o = 18) => ?_) (by assumption); subst e9; show mFo (p_18 (h, d)) _ _; unfold p_18; first | (rw [b_s ho_11, ho_14]; exact mFo.s) | (rw [b_s ho_11, b_s ho_14]; exact mFo.s)) | (refine (fun (e9 : o = 19) => ?_) (by assumption); subst e9; show mFo (p_19 (h, d)) _ _; unfold p_19; first | (rw [b_s ho_11, ho_14]; exact mFo.s) | (rw [b_s ho_11, b_s ho_14]; exact mFo.s)) | (rw [f_arr_d (by assumption)]; unfold p_20; first | (rw [b_s ho_11, ho_14]; exact mFo.s) | (rw [b_s ho_11, b_s ho_14]; exact mFo.s)))⟩ dX8_usesArray_67
    · have c_1e : o = 15 := Int32.toInt_inj.mp c_1v
      refine lv_tableIn (off := 67) (tgt := 68) hx hb dX8_usesArray_1 (by omega) (by omega) (by rw [c_1v]; rfl) (by decide) ?_
      refine lv_lload_n hx hb dX8_usesArray_68 rfl (lv_at hl 2 rfl) ?_
      refine m_calli (m_runS (As := [.long v]) (rest := []) X (k_X3_isClass Γ l L (cM Γ L (sP x 0 8 (h, d))) v) s_X3_isClass ml_X8_118 hw hS rfl hl.1 ⟨Nat.le_of_ble_eq_true rfl, Nat.le_of_ble_eq_true rfl⟩ (Nat.le_of_ble_eq_true rfl) ⟨Nat.le_of_ble_eq_true rfl, Nat.le_of_ble_eq_true rfl⟩ dX8_usesArray_69) hS (fun r_17 L1 M1 H locs hp_17 hw hS => ?_)
      obtain ⟨rfl, e1, e2⟩ := hp_17
      rw [e1, e2] at hw; clear e1 e2
      refine lv_if_eq (tgt := 105) hx hb dX8_usesArray_72 (by decide) (fun c_18 => ?_) (fun c_18 => ?_)
      · skip
        have c_18 := bI_f c_18
        refine lv_iconst (v := 0) hx hb dX8_usesArray_105 (by decide) ?_
        exact m_zret (b := false) X hr hlk hw hS (Nat.le_of_ble_eq_true rfl) (Nat.le_of_ble_eq_true rfl) rfl ⟨(h, d), by show d ≤ 8; omega, rfl, rfl, (by first | (refine (fun (e9 : o = 14) => ?_) (by assumption); subst e9; show mFo (p_14 (h, d)) _ _; unfold p_14; exact mFo.n) | (refine (fun (e9 : o = 15) => ?_) (by assumption); subst e9; show mFo (p_15 v (h, d)) _ _; unfold p_15; rw [if_neg (show ¬ r_isIn v 1 5 = true from (fun z9 => absurd (show k_cls v = true from z9) (by rw [show k_cls v = false by assumption]; decide)))]; exact mFo.n))⟩ dX8_usesArray_106
      · skip
        have c_18 := bI_t c_18
        refine lv_aload_n hx hb dX8_usesArray_75 rfl (lv_at hl 0 rfl) ?_
        refine s_get (a := 0) (b := 7) (ci := 6) X hw rfl rfl gX8 0 (by decide) fl_X8_10 rfl rfl dX8_usesArray_76 ?_
        refine lv_iconst (v := 1) hx hb dX8_usesArray_79 (by decide) ?_
        refine m_calli (m_runV (i := nm 0 8) (ci := 4) (As := [.int 1]) (rest := []) X (k_F6_pop Γ l L x 0 8 h d 1 pO8 (by omega) ok (by decide) (by decide)) v_X6_pop ml_X8_115 hw hS (p_obj Γ L (c := sP x 0 8 (h, d)) pO8) rfl rfl rfl hl.1 ⟨Nat.le_of_ble_eq_true rfl, Nat.le_of_ble_eq_true rfl⟩ (Nat.le_of_ble_eq_true rfl) ⟨Nat.le_of_ble_eq_true rfl, Nat.le_of_ble_eq_true rfl⟩ dX8_usesArray_80) hS (fun r_19 L1 M1 H locs hp_19 hw hS => ?_)
        obtain ⟨⟨h_19, d_19⟩, hd_19, e1, e2, hm_19, hz_19⟩ := hp_19
        have hd_19 : d_19 ≤ 8 := hd_19
        rw [e1, e2] at hw; clear e1 e2
        have hm_19 : mFo (p_pop (h, d) 1) r_19 (h_19, d_19) := hm_19
        cases ho_19 : p_pop (h, d) 1 with
        | none =>
          rw [ho_19] at hm_19
          have hm_19 : r_19 = 0 := hm_19
          subst hm_19
          have hw : mW Γ.1 vwCl A L (cM Γ L (sP x 0 8 (h, d))) H := by rw [hz_19 ho_19] at hw; exact hw
          refine lv_if_eq (tgt := 105) hx hb dX8_usesArray_83 (by decide) (fun _ => ?_) (fun h => absurd rfl h)
          refine lv_iconst (v := 0) hx hb dX8_usesArray_105 (by decide) ?_
          exact m_zret (b := false) X hr hlk hw hS (Nat.le_of_ble_eq_true rfl) (Nat.le_of_ble_eq_true rfl) rfl ⟨(h, d), by show d ≤ 8; omega, rfl, rfl, (by first | (refine (fun (e9 : o = 14) => ?_) (by assumption); subst e9; show mFo (p_14 (h, d)) _ _; unfold p_14; first | (rw [ho_19]; exact mFo.n) | (rw [b_n ho_19]; exact mFo.n)) | (refine (fun (e9 : o = 15) => ?_) (by assumption); subst e9; show mFo (p_15 v (h, d)) _ _; unfold p_15; rw [if_pos (show r_isIn v 1 5 = true from (show k_cls v = true by assumption))]; first | (rw [ho_19]; exact mFo.n) | (rw [b_n ho_19]; exact mFo.n)) | (refine (fun (e9 : o = 17) => ?_) (by assumption); subst e9; show mFo (p_17 (h, d)) _ _; unfold p_17; first | (rw [ho_19]; exact mFo.n) | (rw [b_n ho_19]; exact mFo.n)) | (refine (fun (e9 : o = 18) => ?_) (by assumption); subst e9; show mFo (p_18 (h, d)) _ _; unfold p_18; first | (rw [ho_19]; exact mFo.n) | (rw [b_n ho_19]; exact mFo.n)) | (refine (fun (e9 : o = 19) => ?_) (by assumption); subst e9; show mFo (p_19 (h, d)) _ _; unfold p_19; first | (rw [ho_19]; exact mFo.n) | (rw [b_n ho_19]; exact mFo.n)) | (rw [f_arr_d (by assumption)]; unfold p_20; first | (rw [ho_19]; exact mFo.n) | (rw [b_n ho_19]; exact mFo.n)))⟩ dX8_usesArray_106
        | some z_19 =>
          rw [ho_19] at hm_19
          have hm_19 : r_19 = 1 ∧ (h_19, d_19) = z_19 := hm_19
          obtain ⟨e3, e4⟩ := hm_19
          subst e3; subst e4
          have ok_19 : okP (h_19, d_19) := ok_pop ok _ ho_19
          refine lv_if_eq (tgt := 105) hx hb dX8_usesArray_83 (by decide) (fun h => absurd h (by decide)) (fun _ => ?_)
          refine lv_aload_n hx hb dX8_usesArray_86 rfl (lv_at hl 0 rfl) ?_
          refine s_get (a := 0) (b := 7) (ci := 6) X hw rfl rfl gX8 0 (by decide) fl_X8_10 rfl rfl dX8_usesArray_87 ?_
          refine lv_bipush (v := 20) hx hb dX8_usesArray_90 (by decide) ?_
          refine lv_lload_n hx hb dX8_usesArray_92 rfl (lv_at hl 2 rfl) ?_
          refine lv_l2i (v := v.toInt32) hx hb dX8_usesArray_93 rfl ?_
          refine lv_iadd hx hb dX8_usesArray_94 ?_
          refine m_calli (m_runV (i := nm 0 8) (ci := 4) (As := [.int (20 + v.toInt32)]) (rest := []) X (k_F6_push Γ l L x 0 8 h_19 d_19 (20 + v.toInt32) pO8 (by omega)) v_X6_push ml_X8_74 hw hS (p_obj Γ L (c := sP x 0 8 (h_19, d_19)) pO8) rfl rfl rfl hl.1 ⟨Nat.le_of_ble_eq_true rfl, Nat.le_of_ble_eq_true rfl⟩ (Nat.le_of_ble_eq_true rfl) ⟨Nat.le_of_ble_eq_true rfl, Nat.le_of_ble_eq_true rfl⟩ dX8_usesArray_95) hS (fun r_22 L1 M1 H locs hp_22 hw hS => ?_)
          obtain ⟨⟨h_22, d_22⟩, hd_22, e1, e2, hm_22⟩ := hp_22
          have hd_22 : d_22 ≤ 8 := hd_22
          rw [e1, e2] at hw; clear e1 e2
          have hm_22 : mFo (p_push (h_19, d_19) (20 + v.toInt32)) r_22 (h_22, d_22) := hm_22
          cases ho_22 : p_push (h_19, d_19) (20 + v.toInt32) with
          | none =>
            rw [ho_22] at hm_22
            have hm_22 : r_22 = 0 := hm_22
            subst hm_22
            refine lv_if_eq (tgt := 105) hx hb dX8_usesArray_98 (by decide) (fun _ => ?_) (fun h => absurd rfl h)
            refine lv_iconst (v := 0) hx hb dX8_usesArray_105 (by decide) ?_
            exact m_zret (b := false) X hr hlk hw hS (Nat.le_of_ble_eq_true rfl) (Nat.le_of_ble_eq_true rfl) rfl ⟨(h_22, d_22), by show d_22 ≤ 8; omega, rfl, rfl, (by first | (refine (fun (e9 : o = 14) => ?_) (by assumption); subst e9; show mFo (p_14 (h, d)) _ _; unfold p_14; first | (rw [b_s ho_19, ho_22]; exact mFo.n) | (rw [b_s ho_19, b_n ho_22]; exact mFo.n)) | (refine (fun (e9 : o = 15) => ?_) (by assumption); subst e9; show mFo (p_15 v (h, d)) _ _; unfold p_15; rw [if_pos (show r_isIn v 1 5 = true from (show k_cls v = true by assumption))]; first | (rw [b_s ho_19, ho_22]; exact mFo.n) | (rw [b_s ho_19, b_n ho_22]; exact mFo.n)) | (refine (fun (e9 : o = 16) => ?_) (by assumption); subst e9; show mFo (p_16 (h, d)) _ _; rw [p16_a ok ho_19, ho_22]; exact mFo.n) | (refine (fun (e9 : o = 17) => ?_) (by assumption); subst e9; show mFo (p_17 (h, d)) _ _; unfold p_17; first | (rw [b_s ho_19, ho_22]; exact mFo.n) | (rw [b_s ho_19, b_n ho_22]; exact mFo.n)) | (refine (fun (e9 : o = 18) => ?_) (by assumption); subst e9; show mFo (p_18 (h, d)) _ _; unfold p_18; first | (rw [b_s ho_19, ho_22]; exact mFo.n) | (rw [b_s ho_19, b_n ho_22]; exact mFo.n)) | (refine (fun (e9 : o = 19) => ?_) (by assumption); subst e9; show mFo (p_19 (h, d)) _ _; unfold p_19; first | (rw [b_s ho_19, ho_22]; exact mFo.n) | (rw [b_s ho_19, b_n ho_22]; exact mFo.n)) | (rw [f_arr_d (by assumption)]; unfold p_20; first | (rw [b_s ho_19, ho_22]; exact mFo.n) | (rw [b_s ho_19, b_n ho_22]; exact mFo.n)))⟩ dX8_usesArray_106
          | some z_22 =>
            rw [ho_22] at hm_22
            have hm_22 : r_22 = 1 ∧ (h_22, d_22) = z_22 := hm_22
            obtain ⟨e3, e4⟩ := hm_22
            subst e3; subst e4
            refine lv_if_eq (tgt := 105) hx hb dX8_usesArray_98 (by decide) (fun h => absurd h (by decide)) (fun _ => ?_)
            refine lv_iconst (v := 1) hx hb dX8_usesArray_101 (by decide) ?_
            refine lv_goto (tgt := 106) hx hb dX8_usesArray_102 (by decide) ?_
            exact m_zret (b := true) X hr hlk hw hS (Nat.le_of_ble_eq_true rfl) (Nat.le_of_ble_eq_true rfl) rfl ⟨(h_22, d_22), by show d_22 ≤ 8; omega, rfl, rfl, (by first | (refine (fun (e9 : o = 14) => ?_) (by assumption); subst e9; show mFo (p_14 (h, d)) _ _; unfold p_14; first | (rw [b_s ho_19, ho_22]; exact mFo.s) | (rw [b_s ho_19, b_s ho_22]; exact mFo.s)) | (refine (fun (e9 : o = 15) => ?_) (by assumption); subst e9; show mFo (p_15 v (h, d)) _ _; unfold p_15; rw [if_pos (show r_isIn v 1 5 = true from (show k_cls v = true by assumption))]; first | (rw [b_s ho_19, ho_22]; exact mFo.s) | (rw [b_s ho_19, b_s ho_22]; exact mFo.s)) | (refine (fun (e9 : o = 16) => ?_) (by assumption); subst e9; show mFo (p_16 (h, d)) _ _; rw [p16_a ok ho_19, ho_22]; exact mFo.s) | (refine (fun (e9 : o = 17) => ?_) (by assumption); subst e9; show mFo (p_17 (h, d)) _ _; unfold p_17; first | (rw [b_s ho_19, ho_22]; exact mFo.s) | (rw [b_s ho_19, b_s ho_22]; exact mFo.s)) | (refine (fun (e9 : o = 18) => ?_) (by assumption); subst e9; show mFo (p_18 (h, d)) _ _; unfold p_18; first | (rw [b_s ho_19, ho_22]; exact mFo.s) | (rw [b_s ho_19, b_s ho_22]; exact mFo.s)) | (refine (fun (e9 : o = 19) => ?_) (by assumption); subst e9; show mFo (p_19 (h, d)) _ _; unfold p_19; first | (rw [b_s ho_19, ho_22]; exact mFo.s) | (rw [b_s ho_19, b_s ho_22]; exact mFo.s)) | (rw [f_arr_d (by assumption)]; unfold p_20; first | (rw [b_s ho_19, ho_22]; exact mFo.s) | (rw [b_s ho_19, b_s ho_22]; exact mFo.s)))⟩ dX8_usesArray_106
    · have c_1e : o = 16 := Int32.toInt_inj.mp c_1v
      refine lv_tableIn (off := 106) (tgt := 107) hx hb dX8_usesArray_1 (by omega) (by omega) (by rw [c_1v]; rfl) (by decide) ?_
      refine lv_aload_n hx hb dX8_usesArray_107 rfl (lv_at hl 0 rfl) ?_
      refine s_get (a := 0) (b := 7) (ci := 6) X hw rfl rfl gX8 0 (by decide) fl_X8_10 rfl rfl dX8_usesArray_108 ?_
      refine lv_iconst (v := 5) hx hb dX8_usesArray_111 (by decide) ?_
      refine m_calli (m_runV (i := nm 0 8) (ci := 4) (As := [.int 5]) (rest := []) X (k_F6_pop Γ l L x 0 8 h d 5 pO8 (by omega) ok (by decide) (by decide)) v_X6_pop ml_X8_115 hw hS (p_obj Γ L (c := sP x 0 8 (h, d)) pO8) rfl rfl rfl hl.1 ⟨Nat.le_of_ble_eq_true rfl, Nat.le_of_ble_eq_true rfl⟩ (Nat.le_of_ble_eq_true rfl) ⟨Nat.le_of_ble_eq_true rfl, Nat.le_of_ble_eq_true rfl⟩ dX8_usesArray_112) hS (fun r_25 L1 M1 H locs hp_25 hw hS => ?_)
      obtain ⟨⟨h_25, d_25⟩, hd_25, e1, e2, hm_25, hz_25⟩ := hp_25
      have hd_25 : d_25 ≤ 8 := hd_25
      rw [e1, e2] at hw; clear e1 e2
      have hm_25 : mFo (p_pop (h, d) 5) r_25 (h_25, d_25) := hm_25
      cases ho_25 : p_pop (h, d) 5 with
      | none =>
        rw [ho_25] at hm_25
        have hm_25 : r_25 = 0 := hm_25
        subst hm_25
        have hw : mW Γ.1 vwCl A L (cM Γ L (sP x 0 8 (h, d))) H := by rw [hz_25 ho_25] at hw; exact hw
        refine lv_if_ne (tgt := 128) hx hb dX8_usesArray_115 (by decide) (fun h => absurd rfl h) (fun _ => ?_)
        refine lv_aload_n hx hb dX8_usesArray_118 rfl (lv_at hl 0 rfl) ?_
        refine s_get (a := 0) (b := 7) (ci := 6) X hw rfl rfl gX8 0 (by decide) fl_X8_10 rfl rfl dX8_usesArray_119 ?_
        refine m_calli (m_runV (i := nm 0 8) (ci := 4) (As := []) (rest := []) X (k_F6_popRow Γ l L x 0 8 h d  pO8 (by omega)) v_X6_popRow ml_X8_130 hw hS (p_obj Γ L (c := sP x 0 8 (h, d)) pO8) rfl rfl rfl hl.1 ⟨Nat.le_of_ble_eq_true rfl, Nat.le_of_ble_eq_true rfl⟩ (Nat.le_of_ble_eq_true rfl) ⟨Nat.le_of_ble_eq_true rfl, Nat.le_of_ble_eq_true rfl⟩ dX8_usesArray_122) hS (fun r_27 L1 M1 H locs hp_27 hw hS => ?_)
        obtain ⟨e1, er_27, e2⟩ := hp_27
        rw [e1, e2] at hw; clear e1 e2
        by_cases po_27 : ¬ d = 0 ∧ p_isRowN (h (7 + d)) = true
        · rw [f_row_y po_27] at er_27 hw
          have er_27 : r_27 = h (7 + d) := er_27
          subst er_27
          have hpos_27 : 0 < d := f_row_y_p po_27
          have hw : mW Γ.1 vwCl A L (cM Γ L (sP x 0 8 (h, d - 1))) H := hw
          have ok_27 : okP (h, d - 1) := ok_dropn (q := (h, d)) (n := 1) ok
          refine lv_if_eq (tgt := 143) hx hb dX8_usesArray_125 (by decide) (fun c_28 => ?_) (fun c_28 => ?_)
          · skip
            refine lv_iconst (v := 0) hx hb dX8_usesArray_143 (by decide) ?_
            exact m_zret (b := false) X hr hlk hw hS (Nat.le_of_ble_eq_true rfl) (Nat.le_of_ble_eq_true rfl) rfl ⟨(h, d - 1), by show d - 1 ≤ 8; omega, rfl, rfl, (by first | (exact absurd (by assumption) (row_n0 po_27)) | (refine (fun (e9 : o = 14) => ?_) (by assumption); subst e9; show mFo (p_14 (h, d)) _ _; unfold p_14; first | (rw [ho_25]; exact mFo.n) | (rw [b_n ho_25]; exact mFo.n)) | (refine (fun (e9 : o = 15) => ?_) (by assumption); subst e9; show mFo (p_15 v (h, d)) _ _; unfold p_15; rw [if_pos (show r_isIn v 1 5 = true from (show k_cls v = true by assumption))]; first | (rw [ho_25]; exact mFo.n) | (rw [b_n ho_25]; exact mFo.n)) | (refine (fun (e9 : o = 16) => ?_) (by assumption); subst e9; show mFo (p_16 (h, d)) _ _; rw [p16_b po_27, ho_25]; exact mFo.n) | (refine (fun (e9 : o = 17) => ?_) (by assumption); subst e9; show mFo (p_17 (h, d)) _ _; unfold p_17; first | (rw [ho_25]; exact mFo.n) | (rw [b_n ho_25]; exact mFo.n)) | (refine (fun (e9 : o = 18) => ?_) (by assumption); subst e9; show mFo (p_18 (h, d)) _ _; unfold p_18; first | (rw [ho_25]; exact mFo.n) | (rw [b_n ho_25]; exact mFo.n)) | (rw [f_arr_d (by assumption)]; unfold p_20; rw [b_s ho_25, if_pos po_27]; exact mFo.s))⟩ dX8_usesArray_144
          · skip
            refine lv_aload_n hx hb dX8_usesArray_128 rfl (lv_at hl 0 rfl) ?_
            refine s_get (a := 0) (b := 7) (ci := 6) X hw rfl rfl gX8 0 (by decide) fl_X8_10 rfl rfl dX8_usesArray_129 ?_
            refine lv_iconst (v := 1) hx hb dX8_usesArray_132 (by decide) ?_
            refine m_calli (m_runV (i := nm 0 8) (ci := 4) (As := [.int 1]) (rest := []) X (k_F6_push Γ l L x 0 8 h (d - 1) 1 pO8 (by omega)) v_X6_push ml_X8_74 hw hS (p_obj Γ L (c := sP x 0 8 (h, d - 1)) pO8) rfl rfl rfl hl.1 ⟨Nat.le_of_ble_eq_true rfl, Nat.le_of_ble_eq_true rfl⟩ (Nat.le_of_ble_eq_true rfl) ⟨Nat.le_of_ble_eq_true rfl, Nat.le_of_ble_eq_true rfl⟩ dX8_usesArray_133) hS (fun r_29 L1 M1 H locs hp_29 hw hS => ?_)
            obtain ⟨⟨h_29, d_29⟩, hd_29, e1, e2, hm_29⟩ := hp_29
            have hd_29 : d_29 ≤ 8 := hd_29
            rw [e1, e2] at hw; clear e1 e2
            have hm_29 : mFo (p_push (h, d - 1) 1) r_29 (h_29, d_29) := hm_29
            cases ho_29 : p_push (h, d - 1) 1 with
            | none =>
              rw [ho_29] at hm_29
              have hm_29 : r_29 = 0 := hm_29
              subst hm_29
              refine lv_if_eq (tgt := 143) hx hb dX8_usesArray_136 (by decide) (fun _ => ?_) (fun h => absurd rfl h)
              refine lv_iconst (v := 0) hx hb dX8_usesArray_143 (by decide) ?_
              exact m_zret (b := false) X hr hlk hw hS (Nat.le_of_ble_eq_true rfl) (Nat.le_of_ble_eq_true rfl) rfl ⟨(h_29, d_29), by show d_29 ≤ 8; omega, rfl, rfl, (by first | (exact absurd (by assumption) (row_n0 po_27)) | (refine (fun (e9 : o = 14) => ?_) (by assumption); subst e9; show mFo (p_14 (h, d)) _ _; unfold p_14; first | (rw [b_n ho_25, ho_29]; exact mFo.n) | (rw [b_n ho_25, b_n ho_29]; exact mFo.n)) | (refine (fun (e9 : o = 15) => ?_) (by assumption); subst e9; show mFo (p_15 v (h, d)) _ _; unfold p_15; rw [if_pos (show r_isIn v 1 5 = true from (show k_cls v = true by assumption))]; first | (rw [b_n ho_25, ho_29]; exact mFo.n) | (rw [b_n ho_25, b_n ho_29]; exact mFo.n)) | (refine (fun (e9 : o = 16) => ?_) (by assumption); subst e9; show mFo (p_16 (h, d)) _ _; rw [p16_b po_27, ho_29]; exact mFo.n) | (refine (fun (e9 : o = 17) => ?_) (by assumption); subst e9; show mFo (p_17 (h, d)) _ _; unfold p_17; first | (rw [b_n ho_25, ho_29]; exact mFo.n) | (rw [b_n ho_25, b_n ho_29]; exact mFo.n)) | (refine (fun (e9 : o = 18) => ?_) (by assumption); subst e9; show mFo (p_18 (h, d)) _ _; unfold p_18; first | (rw [b_n ho_25, ho_29]; exact mFo.n) | (rw [b_n ho_25, b_n ho_29]; exact mFo.n)) | (refine (fun (e9 : o = 19) => ?_) (by assumption); subst e9; show mFo (p_19 (h, d)) _ _; unfold p_19; rw [b_s ho_25, if_pos po_27]; show mFo (p_push (h_25, d_25 - 1) (if h_25 (7 + d_25) = 4 then 4 else 10 + h_25 (7 + d_25) - 20)) _ _; rw [← tak_y po_27.2, ho_29]; exact mFo.n) | (rw [f_arr_d (by assumption)]; unfold p_20; rw [b_s ho_25, b_s ho_29, if_pos po_27]; exact mFo.s))⟩ dX8_usesArray_144
            | some z_29 =>
              rw [ho_29] at hm_29
              have hm_29 : r_29 = 1 ∧ (h_29, d_29) = z_29 := hm_29
              obtain ⟨e3, e4⟩ := hm_29
              subst e3; subst e4
              refine lv_if_eq (tgt := 143) hx hb dX8_usesArray_136 (by decide) (fun h => absurd h (by decide)) (fun _ => ?_)
              refine lv_iconst (v := 1) hx hb dX8_usesArray_139 (by decide) ?_
              refine lv_goto (tgt := 144) hx hb dX8_usesArray_140 (by decide) ?_
              exact m_zret (b := true) X hr hlk hw hS (Nat.le_of_ble_eq_true rfl) (Nat.le_of_ble_eq_true rfl) rfl ⟨(h_29, d_29), by show d_29 ≤ 8; omega, rfl, rfl, (by first | (refine (fun (e9 : o = 14) => ?_) (by assumption); subst e9; show mFo (p_14 (h, d)) _ _; unfold p_14; first | (rw [b_n ho_25, ho_29]; exact mFo.s) | (rw [b_n ho_25, b_s ho_29]; exact mFo.s)) | (refine (fun (e9 : o = 15) => ?_) (by assumption); subst e9; show mFo (p_15 v (h, d)) _ _; unfold p_15; rw [if_pos (show r_isIn v 1 5 = true from (show k_cls v = true by assumption))]; first | (rw [b_n ho_25, ho_29]; exact mFo.s) | (rw [b_n ho_25, b_s ho_29]; exact mFo.s)) | (refine (fun (e9 : o = 16) => ?_) (by assumption); subst e9; show mFo (p_16 (h, d)) _ _; rw [p16_b po_27, ho_29]; exact mFo.s) | (refine (fun (e9 : o = 17) => ?_) (by assumption); subst e9; show mFo (p_17 (h, d)) _ _; unfold p_17; first | (rw [b_n ho_25, ho_29]; exact mFo.s) | (rw [b_n ho_25, b_s ho_29]; exact mFo.s)) | (refine (fun (e9 : o = 18) => ?_) (by assumption); subst e9; show mFo (p_18 (h, d)) _ _; unfold p_18; first | (rw [b_n ho_25, ho_29]; exact mFo.s) | (rw [b_n ho_25, b_s ho_29]; exact mFo.s)) | (refine (fun (e9 : o = 19) => ?_) (by assumption); subst e9; show mFo (p_19 (h, d)) _ _; unfold p_19; rw [b_s ho_25, if_pos po_27]; show mFo (p_push (h_25, d_25 - 1) (if h_25 (7 + d_25) = 4 then 4 else 10 + h_25 (7 + d_25) - 20)) _ _; rw [← tak_y po_27.2, ho_29]; exact mFo.s) | (rw [f_arr_d (by assumption)]; unfold p_20; rw [b_s ho_25, b_s ho_29, if_pos po_27]; exact mFo.s))⟩ dX8_usesArray_144
        · rw [f_row_x po_27] at er_27 hw
          have er_27 : r_27 = 0 := er_27
          subst er_27
          have hw : mW Γ.1 vwCl A L (cM Γ L (sP x 0 8 (h, d))) H := hw
          refine lv_if_eq (tgt := 143) hx hb dX8_usesArray_125 (by decide) (fun _ => ?_) (fun h => absurd rfl h)
          refine lv_iconst (v := 0) hx hb dX8_usesArray_143 (by decide) ?_
          exact m_zret (b := false) X hr hlk hw hS (Nat.le_of_ble_eq_true rfl) (Nat.le_of_ble_eq_true rfl) rfl ⟨(h, d), by show d ≤ 8; omega, rfl, rfl, (by first | (refine (fun (e9 : o = 14) => ?_) (by assumption); subst e9; show mFo (p_14 (h, d)) _ _; unfold p_14; first | (rw [ho_25]; exact mFo.n) | (rw [b_n ho_25]; exact mFo.n)) | (refine (fun (e9 : o = 15) => ?_) (by assumption); subst e9; show mFo (p_15 v (h, d)) _ _; unfold p_15; rw [if_pos (show r_isIn v 1 5 = true from (show k_cls v = true by assumption))]; first | (rw [ho_25]; exact mFo.n) | (rw [b_n ho_25]; exact mFo.n)) | (refine (fun (e9 : o = 16) => ?_) (by assumption); subst e9; show mFo (p_16 (h, d)) _ _; rw [p16_c ho_25 po_27]; exact mFo.n) | (refine (fun (e9 : o = 17) => ?_) (by assumption); subst e9; show mFo (p_17 (h, d)) _ _; unfold p_17; first | (rw [ho_25]; exact mFo.n) | (rw [b_n ho_25]; exact mFo.n)) | (refine (fun (e9 : o = 18) => ?_) (by assumption); subst e9; show mFo (p_18 (h, d)) _ _; unfold p_18; first | (rw [ho_25]; exact mFo.n) | (rw [b_n ho_25]; exact mFo.n)) | (rw [f_arr_d (by assumption)]; unfold p_20; rw [b_s ho_25, if_neg po_27]; exact mFo.n))⟩ dX8_usesArray_144
      | some z_25 =>
        rw [ho_25] at hm_25
        have hm_25 : r_25 = 1 ∧ (h_25, d_25) = z_25 := hm_25
        obtain ⟨e3, e4⟩ := hm_25
        subst e3; subst e4
        have ok_25 : okP (h_25, d_25) := ok_pop ok _ ho_25
        refine lv_if_ne (tgt := 128) hx hb dX8_usesArray_115 (by decide) (fun _ => ?_) (fun h => absurd h (by decide))
        refine lv_aload_n hx hb dX8_usesArray_128 rfl (lv_at hl 0 rfl) ?_
        refine s_get (a := 0) (b := 7) (ci := 6) X hw rfl rfl gX8 0 (by decide) fl_X8_10 rfl rfl dX8_usesArray_129 ?_
        refine lv_iconst (v := 1) hx hb dX8_usesArray_132 (by decide) ?_
        refine m_calli (m_runV (i := nm 0 8) (ci := 4) (As := [.int 1]) (rest := []) X (k_F6_push Γ l L x 0 8 h_25 d_25 1 pO8 (by omega)) v_X6_push ml_X8_74 hw hS (p_obj Γ L (c := sP x 0 8 (h_25, d_25)) pO8) rfl rfl rfl hl.1 ⟨Nat.le_of_ble_eq_true rfl, Nat.le_of_ble_eq_true rfl⟩ (Nat.le_of_ble_eq_true rfl) ⟨Nat.le_of_ble_eq_true rfl, Nat.le_of_ble_eq_true rfl⟩ dX8_usesArray_133) hS (fun r_34 L1 M1 H locs hp_34 hw hS => ?_)
        obtain ⟨⟨h_34, d_34⟩, hd_34, e1, e2, hm_34⟩ := hp_34
        have hd_34 : d_34 ≤ 8 := hd_34
        rw [e1, e2] at hw; clear e1 e2
        have hm_34 : mFo (p_push (h_25, d_25) 1) r_34 (h_34, d_34) := hm_34
        cases ho_34 : p_push (h_25, d_25) 1 with
        | none =>
          rw [ho_34] at hm_34
          have hm_34 : r_34 = 0 := hm_34
          subst hm_34
          refine lv_if_eq (tgt := 143) hx hb dX8_usesArray_136 (by decide) (fun _ => ?_) (fun h => absurd rfl h)
          refine lv_iconst (v := 0) hx hb dX8_usesArray_143 (by decide) ?_
          exact m_zret (b := false) X hr hlk hw hS (Nat.le_of_ble_eq_true rfl) (Nat.le_of_ble_eq_true rfl) rfl ⟨(h_34, d_34), by show d_34 ≤ 8; omega, rfl, rfl, (by first | (refine (fun (e9 : o = 14) => ?_) (by assumption); subst e9; show mFo (p_14 (h, d)) _ _; unfold p_14; first | (rw [b_s ho_25, ho_34]; exact mFo.n) | (rw [b_s ho_25, b_n ho_34]; exact mFo.n)) | (refine (fun (e9 : o = 15) => ?_) (by assumption); subst e9; show mFo (p_15 v (h, d)) _ _; unfold p_15; rw [if_pos (show r_isIn v 1 5 = true from (show k_cls v = true by assumption))]; first | (rw [b_s ho_25, ho_34]; exact mFo.n) | (rw [b_s ho_25, b_n ho_34]; exact mFo.n)) | (refine (fun (e9 : o = 16) => ?_) (by assumption); subst e9; show mFo (p_16 (h, d)) _ _; rw [p16_a ok ho_25, ho_34]; exact mFo.n) | (refine (fun (e9 : o = 17) => ?_) (by assumption); subst e9; show mFo (p_17 (h, d)) _ _; unfold p_17; first | (rw [b_s ho_25, ho_34]; exact mFo.n) | (rw [b_s ho_25, b_n ho_34]; exact mFo.n)) | (refine (fun (e9 : o = 18) => ?_) (by assumption); subst e9; show mFo (p_18 (h, d)) _ _; unfold p_18; first | (rw [b_s ho_25, ho_34]; exact mFo.n) | (rw [b_s ho_25, b_n ho_34]; exact mFo.n)) | (refine (fun (e9 : o = 19) => ?_) (by assumption); subst e9; show mFo (p_19 (h, d)) _ _; unfold p_19; first | (rw [b_s ho_25, ho_34]; exact mFo.n) | (rw [b_s ho_25, b_n ho_34]; exact mFo.n)) | (rw [f_arr_d (by assumption)]; unfold p_20; first | (rw [b_s ho_25, ho_34]; exact mFo.n) | (rw [b_s ho_25, b_n ho_34]; exact mFo.n)))⟩ dX8_usesArray_144
        | some z_34 =>
          rw [ho_34] at hm_34
          have hm_34 : r_34 = 1 ∧ (h_34, d_34) = z_34 := hm_34
          obtain ⟨e3, e4⟩ := hm_34
          subst e3; subst e4
          refine lv_if_eq (tgt := 143) hx hb dX8_usesArray_136 (by decide) (fun h => absurd h (by decide)) (fun _ => ?_)
          refine lv_iconst (v := 1) hx hb dX8_usesArray_139 (by decide) ?_
          refine lv_goto (tgt := 144) hx hb dX8_usesArray_140 (by decide) ?_
          exact m_zret (b := true) X hr hlk hw hS (Nat.le_of_ble_eq_true rfl) (Nat.le_of_ble_eq_true rfl) rfl ⟨(h_34, d_34), by show d_34 ≤ 8; omega, rfl, rfl, (by first | (refine (fun (e9 : o = 14) => ?_) (by assumption); subst e9; show mFo (p_14 (h, d)) _ _; unfold p_14; first | (rw [b_s ho_25, ho_34]; exact mFo.s) | (rw [b_s ho_25, b_s ho_34]; exact mFo.s)) | (refine (fun (e9 : o = 15) => ?_) (by assumption); subst e9; show mFo (p_15 v (h, d)) _ _; unfold p_15; rw [if_pos (show r_isIn v 1 5 = true from (show k_cls v = true by assumption))]; first | (rw [b_s ho_25, ho_34]; exact mFo.s) | (rw [b_s ho_25, b_s ho_34]; exact mFo.s)) | (refine (fun (e9 : o = 16) => ?_) (by assumption); subst e9; show mFo (p_16 (h, d)) _ _; rw [p16_a ok ho_25, ho_34]; exact mFo.s) | (refine (fun (e9 : o = 17) => ?_) (by assumption); subst e9; show mFo (p_17 (h, d)) _ _; unfold p_17; first | (rw [b_s ho_25, ho_34]; exact mFo.s) | (rw [b_s ho_25, b_s ho_34]; exact mFo.s)) | (refine (fun (e9 : o = 18) => ?_) (by assumption); subst e9; show mFo (p_18 (h, d)) _ _; unfold p_18; first | (rw [b_s ho_25, ho_34]; exact mFo.s) | (rw [b_s ho_25, b_s ho_34]; exact mFo.s)) | (refine (fun (e9 : o = 19) => ?_) (by assumption); subst e9; show mFo (p_19 (h, d)) _ _; unfold p_19; first | (rw [b_s ho_25, ho_34]; exact mFo.s) | (rw [b_s ho_25, b_s ho_34]; exact mFo.s)) | (rw [f_arr_d (by assumption)]; unfold p_20; first | (rw [b_s ho_25, ho_34]; exact mFo.s) | (rw [b_s ho_25, b_s ho_34]; exact mFo.s)))⟩ dX8_usesArray_144
    · have c_1e : o = 17 := Int32.toInt_inj.mp c_1v
      refine lv_tableIn (off := 144) (tgt := 145) hx hb dX8_usesArray_1 (by omega) (by omega) (by rw [c_1v]; rfl) (by decide) ?_
      refine lv_aload_n hx hb dX8_usesArray_145 rfl (lv_at hl 0 rfl) ?_
      refine s_get (a := 0) (b := 7) (ci := 6) X hw rfl rfl gX8 0 (by decide) fl_X8_10 rfl rfl dX8_usesArray_146 ?_
      refine lv_iconst (v := 1) hx hb dX8_usesArray_149 (by decide) ?_
      refine m_calli (m_runV (i := nm 0 8) (ci := 4) (As := [.int 1]) (rest := []) X (k_F6_pop Γ l L x 0 8 h d 1 pO8 (by omega) ok (by decide) (by decide)) v_X6_pop ml_X8_115 hw hS (p_obj Γ L (c := sP x 0 8 (h, d)) pO8) rfl rfl rfl hl.1 ⟨Nat.le_of_ble_eq_true rfl, Nat.le_of_ble_eq_true rfl⟩ (Nat.le_of_ble_eq_true rfl) ⟨Nat.le_of_ble_eq_true rfl, Nat.le_of_ble_eq_true rfl⟩ dX8_usesArray_150) hS (fun r_37 L1 M1 H locs hp_37 hw hS => ?_)
      obtain ⟨⟨h_37, d_37⟩, hd_37, e1, e2, hm_37, hz_37⟩ := hp_37
      have hd_37 : d_37 ≤ 8 := hd_37
      rw [e1, e2] at hw; clear e1 e2
      have hm_37 : mFo (p_pop (h, d) 1) r_37 (h_37, d_37) := hm_37
      cases ho_37 : p_pop (h, d) 1 with
      | none =>
        rw [ho_37] at hm_37
        have hm_37 : r_37 = 0 := hm_37
        subst hm_37
        have hw : mW Γ.1 vwCl A L (cM Γ L (sP x 0 8 (h, d))) H := by rw [hz_37 ho_37] at hw; exact hw
        refine lv_if_eq (tgt := 182) hx hb dX8_usesArray_153 (by decide) (fun _ => ?_) (fun h => absurd rfl h)
        refine lv_iconst (v := 0) hx hb dX8_usesArray_182 (by decide) ?_
        exact m_zret (b := false) X hr hlk hw hS (Nat.le_of_ble_eq_true rfl) (Nat.le_of_ble_eq_true rfl) rfl ⟨(h, d), by show d ≤ 8; omega, rfl, rfl, (by first | (refine (fun (e9 : o = 14) => ?_) (by assumption); subst e9; show mFo (p_14 (h, d)) _ _; unfold p_14; first | (rw [ho_37]; exact mFo.n) | (rw [b_n ho_37]; exact mFo.n)) | (refine (fun (e9 : o = 15) => ?_) (by assumption); subst e9; show mFo (p_15 v (h, d)) _ _; unfold p_15; rw [if_pos (show r_isIn v 1 5 = true from (show k_cls v = true by assumption))]; first | (rw [ho_37]; exact mFo.n) | (rw [b_n ho_37]; exact mFo.n)) | (refine (fun (e9 : o = 17) => ?_) (by assumption); subst e9; show mFo (p_17 (h, d)) _ _; unfold p_17; first | (rw [ho_37]; exact mFo.n) | (rw [b_n ho_37]; exact mFo.n)) | (refine (fun (e9 : o = 18) => ?_) (by assumption); subst e9; show mFo (p_18 (h, d)) _ _; unfold p_18; first | (rw [ho_37]; exact mFo.n) | (rw [b_n ho_37]; exact mFo.n)) | (refine (fun (e9 : o = 19) => ?_) (by assumption); subst e9; show mFo (p_19 (h, d)) _ _; unfold p_19; first | (rw [ho_37]; exact mFo.n) | (rw [b_n ho_37]; exact mFo.n)) | (rw [f_arr_d (by assumption)]; unfold p_20; first | (rw [ho_37]; exact mFo.n) | (rw [b_n ho_37]; exact mFo.n)))⟩ dX8_usesArray_183
      | some z_37 =>
        rw [ho_37] at hm_37
        have hm_37 : r_37 = 1 ∧ (h_37, d_37) = z_37 := hm_37
        obtain ⟨e3, e4⟩ := hm_37
        subst e3; subst e4
        have ok_37 : okP (h_37, d_37) := ok_pop ok _ ho_37
        refine lv_if_eq (tgt := 182) hx hb dX8_usesArray_153 (by decide) (fun h => absurd h (by decide)) (fun _ => ?_)
        refine lv_aload_n hx hb dX8_usesArray_156 rfl (lv_at hl 0 rfl) ?_
        refine s_get (a := 0) (b := 7) (ci := 6) X hw rfl rfl gX8 0 (by decide) fl_X8_10 rfl rfl dX8_usesArray_157 ?_
        refine lv_iconst (v := 5) hx hb dX8_usesArray_160 (by decide) ?_
        refine m_calli (m_runV (i := nm 0 8) (ci := 4) (As := [.int 5]) (rest := []) X (k_F6_pop Γ l L x 0 8 h_37 d_37 5 pO8 (by omega) ok_37 (by decide) (by decide)) v_X6_pop ml_X8_115 hw hS (p_obj Γ L (c := sP x 0 8 (h_37, d_37)) pO8) rfl rfl rfl hl.1 ⟨Nat.le_of_ble_eq_true rfl, Nat.le_of_ble_eq_true rfl⟩ (Nat.le_of_ble_eq_true rfl) ⟨Nat.le_of_ble_eq_true rfl, Nat.le_of_ble_eq_true rfl⟩ dX8_usesArray_161) hS (fun r_40 L1 M1 H locs hp_40 hw hS => ?_)
        obtain ⟨⟨h_40, d_40⟩, hd_40, e1, e2, hm_40, hz_40⟩ := hp_40
        have hd_40 : d_40 ≤ 8 := hd_40
        rw [e1, e2] at hw; clear e1 e2
        have hm_40 : mFo (p_pop (h_37, d_37) 5) r_40 (h_40, d_40) := hm_40
        cases ho_40 : p_pop (h_37, d_37) 5 with
        | none =>
          rw [ho_40] at hm_40
          have hm_40 : r_40 = 0 := hm_40
          subst hm_40
          have hw : mW Γ.1 vwCl A L (cM Γ L (sP x 0 8 (h_37, d_37))) H := by rw [hz_40 ho_40] at hw; exact hw
          refine lv_if_eq (tgt := 182) hx hb dX8_usesArray_164 (by decide) (fun _ => ?_) (fun h => absurd rfl h)
          refine lv_iconst (v := 0) hx hb dX8_usesArray_182 (by decide) ?_
          exact m_zret (b := false) X hr hlk hw hS (Nat.le_of_ble_eq_true rfl) (Nat.le_of_ble_eq_true rfl) rfl ⟨(h_37, d_37), by show d_37 ≤ 8; omega, rfl, rfl, (by first | (refine (fun (e9 : o = 14) => ?_) (by assumption); subst e9; show mFo (p_14 (h, d)) _ _; unfold p_14; first | (rw [b_s ho_37, ho_40]; exact mFo.n) | (rw [b_s ho_37, b_n ho_40]; exact mFo.n)) | (refine (fun (e9 : o = 15) => ?_) (by assumption); subst e9; show mFo (p_15 v (h, d)) _ _; unfold p_15; rw [if_pos (show r_isIn v 1 5 = true from (show k_cls v = true by assumption))]; first | (rw [b_s ho_37, ho_40]; exact mFo.n) | (rw [b_s ho_37, b_n ho_40]; exact mFo.n)) | (refine (fun (e9 : o = 16) => ?_) (by assumption); subst e9; show mFo (p_16 (h, d)) _ _; rw [p16_a ok ho_37, ho_40]; exact mFo.n) | (refine (fun (e9 : o = 17) => ?_) (by assumption); subst e9; show mFo (p_17 (h, d)) _ _; unfold p_17; first | (rw [b_s ho_37, ho_40]; exact mFo.n) | (rw [b_s ho_37, b_n ho_40]; exact mFo.n)) | (refine (fun (e9 : o = 18) => ?_) (by assumption); subst e9; show mFo (p_18 (h, d)) _ _; unfold p_18; first | (rw [b_s ho_37, ho_40]; exact mFo.n) | (rw [b_s ho_37, b_n ho_40]; exact mFo.n)) | (refine (fun (e9 : o = 19) => ?_) (by assumption); subst e9; show mFo (p_19 (h, d)) _ _; unfold p_19; first | (rw [b_s ho_37, ho_40]; exact mFo.n) | (rw [b_s ho_37, b_n ho_40]; exact mFo.n)) | (rw [f_arr_d (by assumption)]; unfold p_20; first | (rw [b_s ho_37, ho_40]; exact mFo.n) | (rw [b_s ho_37, b_n ho_40]; exact mFo.n)))⟩ dX8_usesArray_183
        | some z_40 =>
          rw [ho_40] at hm_40
          have hm_40 : r_40 = 1 ∧ (h_40, d_40) = z_40 := hm_40
          obtain ⟨e3, e4⟩ := hm_40
          subst e3; subst e4
          have ok_40 : okP (h_40, d_40) := ok_pop ok_37 _ ho_40
          refine lv_if_eq (tgt := 182) hx hb dX8_usesArray_164 (by decide) (fun h => absurd h (by decide)) (fun _ => ?_)
          refine lv_aload_n hx hb dX8_usesArray_167 rfl (lv_at hl 0 rfl) ?_
          refine s_get (a := 0) (b := 7) (ci := 6) X hw rfl rfl gX8 0 (by decide) fl_X8_10 rfl rfl dX8_usesArray_168 ?_
          refine lv_iconst (v := 1) hx hb dX8_usesArray_171 (by decide) ?_
          refine m_calli (m_runV (i := nm 0 8) (ci := 4) (As := [.int 1]) (rest := []) X (k_F6_push Γ l L x 0 8 h_40 d_40 1 pO8 (by omega)) v_X6_push ml_X8_74 hw hS (p_obj Γ L (c := sP x 0 8 (h_40, d_40)) pO8) rfl rfl rfl hl.1 ⟨Nat.le_of_ble_eq_true rfl, Nat.le_of_ble_eq_true rfl⟩ (Nat.le_of_ble_eq_true rfl) ⟨Nat.le_of_ble_eq_true rfl, Nat.le_of_ble_eq_true rfl⟩ dX8_usesArray_172) hS (fun r_43 L1 M1 H locs hp_43 hw hS => ?_)
          obtain ⟨⟨h_43, d_43⟩, hd_43, e1, e2, hm_43⟩ := hp_43
          have hd_43 : d_43 ≤ 8 := hd_43
          rw [e1, e2] at hw; clear e1 e2
          have hm_43 : mFo (p_push (h_40, d_40) 1) r_43 (h_43, d_43) := hm_43
          cases ho_43 : p_push (h_40, d_40) 1 with
          | none =>
            rw [ho_43] at hm_43
            have hm_43 : r_43 = 0 := hm_43
            subst hm_43
            refine lv_if_eq (tgt := 182) hx hb dX8_usesArray_175 (by decide) (fun _ => ?_) (fun h => absurd rfl h)
            refine lv_iconst (v := 0) hx hb dX8_usesArray_182 (by decide) ?_
            exact m_zret (b := false) X hr hlk hw hS (Nat.le_of_ble_eq_true rfl) (Nat.le_of_ble_eq_true rfl) rfl ⟨(h_43, d_43), by show d_43 ≤ 8; omega, rfl, rfl, (by first | (refine (fun (e9 : o = 14) => ?_) (by assumption); subst e9; show mFo (p_14 (h, d)) _ _; unfold p_14; first | (rw [b_s ho_37, b_s ho_40, ho_43]; exact mFo.n) | (rw [b_s ho_37, b_s ho_40, b_n ho_43]; exact mFo.n)) | (refine (fun (e9 : o = 15) => ?_) (by assumption); subst e9; show mFo (p_15 v (h, d)) _ _; unfold p_15; rw [if_pos (show r_isIn v 1 5 = true from (show k_cls v = true by assumption))]; first | (rw [b_s ho_37, b_s ho_40, ho_43]; exact mFo.n) | (rw [b_s ho_37, b_s ho_40, b_n ho_43]; exact mFo.n)) | (refine (fun (e9 : o = 16) => ?_) (by assumption); subst e9; show mFo (p_16 (h, d)) _ _; rw [p16_a ok ho_37, ho_40]; exact mFo.n) | (refine (fun (e9 : o = 17) => ?_) (by assumption); subst e9; show mFo (p_17 (h, d)) _ _; unfold p_17; first | (rw [b_s ho_37, b_s ho_40, ho_43]; exact mFo.n) | (rw [b_s ho_37, b_s ho_40, b_n ho_43]; exact mFo.n)) | (refine (fun (e9 : o = 18) => ?_) (by assumption); subst e9; show mFo (p_18 (h, d)) _ _; unfold p_18; first | (rw [b_s ho_37, b_s ho_40, ho_43]; exact mFo.n) | (rw [b_s ho_37, b_s ho_40, b_n ho_43]; exact mFo.n)) | (refine (fun (e9 : o = 19) => ?_) (by assumption); subst e9; show mFo (p_19 (h, d)) _ _; unfold p_19; first | (rw [b_s ho_37, b_s ho_40, ho_43]; exact mFo.n) | (rw [b_s ho_37, b_s ho_40, b_n ho_43]; exact mFo.n)) | (rw [f_arr_d (by assumption)]; unfold p_20; first | (rw [b_s ho_37, b_s ho_40, ho_43]; exact mFo.n) | (rw [b_s ho_37, b_s ho_40, b_n ho_43]; exact mFo.n)))⟩ dX8_usesArray_183
          | some z_43 =>
            rw [ho_43] at hm_43
            have hm_43 : r_43 = 1 ∧ (h_43, d_43) = z_43 := hm_43
            obtain ⟨e3, e4⟩ := hm_43
            subst e3; subst e4
            refine lv_if_eq (tgt := 182) hx hb dX8_usesArray_175 (by decide) (fun h => absurd h (by decide)) (fun _ => ?_)
            refine lv_iconst (v := 1) hx hb dX8_usesArray_178 (by decide) ?_
            refine lv_goto (tgt := 183) hx hb dX8_usesArray_179 (by decide) ?_
            exact m_zret (b := true) X hr hlk hw hS (Nat.le_of_ble_eq_true rfl) (Nat.le_of_ble_eq_true rfl) rfl ⟨(h_43, d_43), by show d_43 ≤ 8; omega, rfl, rfl, (by first | (refine (fun (e9 : o = 14) => ?_) (by assumption); subst e9; show mFo (p_14 (h, d)) _ _; unfold p_14; first | (rw [b_s ho_37, b_s ho_40, ho_43]; exact mFo.s) | (rw [b_s ho_37, b_s ho_40, b_s ho_43]; exact mFo.s)) | (refine (fun (e9 : o = 15) => ?_) (by assumption); subst e9; show mFo (p_15 v (h, d)) _ _; unfold p_15; rw [if_pos (show r_isIn v 1 5 = true from (show k_cls v = true by assumption))]; first | (rw [b_s ho_37, b_s ho_40, ho_43]; exact mFo.s) | (rw [b_s ho_37, b_s ho_40, b_s ho_43]; exact mFo.s)) | (refine (fun (e9 : o = 16) => ?_) (by assumption); subst e9; show mFo (p_16 (h, d)) _ _; rw [p16_a ok ho_37, ho_40]; exact mFo.s) | (refine (fun (e9 : o = 17) => ?_) (by assumption); subst e9; show mFo (p_17 (h, d)) _ _; unfold p_17; first | (rw [b_s ho_37, b_s ho_40, ho_43]; exact mFo.s) | (rw [b_s ho_37, b_s ho_40, b_s ho_43]; exact mFo.s)) | (refine (fun (e9 : o = 18) => ?_) (by assumption); subst e9; show mFo (p_18 (h, d)) _ _; unfold p_18; first | (rw [b_s ho_37, b_s ho_40, ho_43]; exact mFo.s) | (rw [b_s ho_37, b_s ho_40, b_s ho_43]; exact mFo.s)) | (refine (fun (e9 : o = 19) => ?_) (by assumption); subst e9; show mFo (p_19 (h, d)) _ _; unfold p_19; first | (rw [b_s ho_37, b_s ho_40, ho_43]; exact mFo.s) | (rw [b_s ho_37, b_s ho_40, b_s ho_43]; exact mFo.s)) | (rw [f_arr_d (by assumption)]; unfold p_20; first | (rw [b_s ho_37, b_s ho_40, ho_43]; exact mFo.s) | (rw [b_s ho_37, b_s ho_40, b_s ho_43]; exact mFo.s)))⟩ dX8_usesArray_183
    · have c_1e : o = 18 := Int32.toInt_inj.mp c_1v
      refine lv_tableIn (off := 183) (tgt := 184) hx hb dX8_usesArray_1 (by omega) (by omega) (by rw [c_1v]; rfl) (by decide) ?_
      refine lv_aload_n hx hb dX8_usesArray_184 rfl (lv_at hl 0 rfl) ?_
      refine s_get (a := 0) (b := 7) (ci := 6) X hw rfl rfl gX8 0 (by decide) fl_X8_10 rfl rfl dX8_usesArray_185 ?_
      refine lv_iconst (v := 1) hx hb dX8_usesArray_188 (by decide) ?_
      refine m_calli (m_runV (i := nm 0 8) (ci := 4) (As := [.int 1]) (rest := []) X (k_F6_pop Γ l L x 0 8 h d 1 pO8 (by omega) ok (by decide) (by decide)) v_X6_pop ml_X8_115 hw hS (p_obj Γ L (c := sP x 0 8 (h, d)) pO8) rfl rfl rfl hl.1 ⟨Nat.le_of_ble_eq_true rfl, Nat.le_of_ble_eq_true rfl⟩ (Nat.le_of_ble_eq_true rfl) ⟨Nat.le_of_ble_eq_true rfl, Nat.le_of_ble_eq_true rfl⟩ dX8_usesArray_189) hS (fun r_46 L1 M1 H locs hp_46 hw hS => ?_)
      obtain ⟨⟨h_46, d_46⟩, hd_46, e1, e2, hm_46, hz_46⟩ := hp_46
      have hd_46 : d_46 ≤ 8 := hd_46
      rw [e1, e2] at hw; clear e1 e2
      have hm_46 : mFo (p_pop (h, d) 1) r_46 (h_46, d_46) := hm_46
      cases ho_46 : p_pop (h, d) 1 with
      | none =>
        rw [ho_46] at hm_46
        have hm_46 : r_46 = 0 := hm_46
        subst hm_46
        have hw : mW Γ.1 vwCl A L (cM Γ L (sP x 0 8 (h, d))) H := by rw [hz_46 ho_46] at hw; exact hw
        refine lv_if_eq (tgt := 221) hx hb dX8_usesArray_192 (by decide) (fun _ => ?_) (fun h => absurd rfl h)
        refine lv_iconst (v := 0) hx hb dX8_usesArray_221 (by decide) ?_
        exact m_zret (b := false) X hr hlk hw hS (Nat.le_of_ble_eq_true rfl) (Nat.le_of_ble_eq_true rfl) rfl ⟨(h, d), by show d ≤ 8; omega, rfl, rfl, (by first | (refine (fun (e9 : o = 14) => ?_) (by assumption); subst e9; show mFo (p_14 (h, d)) _ _; unfold p_14; first | (rw [ho_46]; exact mFo.n) | (rw [b_n ho_46]; exact mFo.n)) | (refine (fun (e9 : o = 15) => ?_) (by assumption); subst e9; show mFo (p_15 v (h, d)) _ _; unfold p_15; rw [if_pos (show r_isIn v 1 5 = true from (show k_cls v = true by assumption))]; first | (rw [ho_46]; exact mFo.n) | (rw [b_n ho_46]; exact mFo.n)) | (refine (fun (e9 : o = 17) => ?_) (by assumption); subst e9; show mFo (p_17 (h, d)) _ _; unfold p_17; first | (rw [ho_46]; exact mFo.n) | (rw [b_n ho_46]; exact mFo.n)) | (refine (fun (e9 : o = 18) => ?_) (by assumption); subst e9; show mFo (p_18 (h, d)) _ _; unfold p_18; first | (rw [ho_46]; exact mFo.n) | (rw [b_n ho_46]; exact mFo.n)) | (refine (fun (e9 : o = 19) => ?_) (by assumption); subst e9; show mFo (p_19 (h, d)) _ _; unfold p_19; first | (rw [ho_46]; exact mFo.n) | (rw [b_n ho_46]; exact mFo.n)) | (rw [f_arr_d (by assumption)]; unfold p_20; first | (rw [ho_46]; exact mFo.n) | (rw [b_n ho_46]; exact mFo.n)))⟩ dX8_usesArray_222
      | some z_46 =>
        rw [ho_46] at hm_46
        have hm_46 : r_46 = 1 ∧ (h_46, d_46) = z_46 := hm_46
        obtain ⟨e3, e4⟩ := hm_46
        subst e3; subst e4
        have ok_46 : okP (h_46, d_46) := ok_pop ok _ ho_46
        refine lv_if_eq (tgt := 221) hx hb dX8_usesArray_192 (by decide) (fun h => absurd h (by decide)) (fun _ => ?_)
        refine lv_aload_n hx hb dX8_usesArray_195 rfl (lv_at hl 0 rfl) ?_
        refine s_get (a := 0) (b := 7) (ci := 6) X hw rfl rfl gX8 0 (by decide) fl_X8_10 rfl rfl dX8_usesArray_196 ?_
        refine lv_iconst (v := 1) hx hb dX8_usesArray_199 (by decide) ?_
        refine m_calli (m_runV (i := nm 0 8) (ci := 4) (As := [.int 1]) (rest := []) X (k_F6_pop Γ l L x 0 8 h_46 d_46 1 pO8 (by omega) ok_46 (by decide) (by decide)) v_X6_pop ml_X8_115 hw hS (p_obj Γ L (c := sP x 0 8 (h_46, d_46)) pO8) rfl rfl rfl hl.1 ⟨Nat.le_of_ble_eq_true rfl, Nat.le_of_ble_eq_true rfl⟩ (Nat.le_of_ble_eq_true rfl) ⟨Nat.le_of_ble_eq_true rfl, Nat.le_of_ble_eq_true rfl⟩ dX8_usesArray_200) hS (fun r_49 L1 M1 H locs hp_49 hw hS => ?_)
        obtain ⟨⟨h_49, d_49⟩, hd_49, e1, e2, hm_49, hz_49⟩ := hp_49
        have hd_49 : d_49 ≤ 8 := hd_49
        rw [e1, e2] at hw; clear e1 e2
        have hm_49 : mFo (p_pop (h_46, d_46) 1) r_49 (h_49, d_49) := hm_49
        cases ho_49 : p_pop (h_46, d_46) 1 with
        | none =>
          rw [ho_49] at hm_49
          have hm_49 : r_49 = 0 := hm_49
          subst hm_49
          have hw : mW Γ.1 vwCl A L (cM Γ L (sP x 0 8 (h_46, d_46))) H := by rw [hz_49 ho_49] at hw; exact hw
          refine lv_if_eq (tgt := 221) hx hb dX8_usesArray_203 (by decide) (fun _ => ?_) (fun h => absurd rfl h)
          refine lv_iconst (v := 0) hx hb dX8_usesArray_221 (by decide) ?_
          exact m_zret (b := false) X hr hlk hw hS (Nat.le_of_ble_eq_true rfl) (Nat.le_of_ble_eq_true rfl) rfl ⟨(h_46, d_46), by show d_46 ≤ 8; omega, rfl, rfl, (by first | (refine (fun (e9 : o = 14) => ?_) (by assumption); subst e9; show mFo (p_14 (h, d)) _ _; unfold p_14; first | (rw [b_s ho_46, ho_49]; exact mFo.n) | (rw [b_s ho_46, b_n ho_49]; exact mFo.n)) | (refine (fun (e9 : o = 15) => ?_) (by assumption); subst e9; show mFo (p_15 v (h, d)) _ _; unfold p_15; rw [if_pos (show r_isIn v 1 5 = true from (show k_cls v = true by assumption))]; first | (rw [b_s ho_46, ho_49]; exact mFo.n) | (rw [b_s ho_46, b_n ho_49]; exact mFo.n)) | (refine (fun (e9 : o = 16) => ?_) (by assumption); subst e9; show mFo (p_16 (h, d)) _ _; rw [p16_a ok ho_46, ho_49]; exact mFo.n) | (refine (fun (e9 : o = 17) => ?_) (by assumption); subst e9; show mFo (p_17 (h, d)) _ _; unfold p_17; first | (rw [b_s ho_46, ho_49]; exact mFo.n) | (rw [b_s ho_46, b_n ho_49]; exact mFo.n)) | (refine (fun (e9 : o = 18) => ?_) (by assumption); subst e9; show mFo (p_18 (h, d)) _ _; unfold p_18; first | (rw [b_s ho_46, ho_49]; exact mFo.n) | (rw [b_s ho_46, b_n ho_49]; exact mFo.n)) | (refine (fun (e9 : o = 19) => ?_) (by assumption); subst e9; show mFo (p_19 (h, d)) _ _; unfold p_19; first | (rw [b_s ho_46, ho_49]; exact mFo.n) | (rw [b_s ho_46, b_n ho_49]; exact mFo.n)) | (rw [f_arr_d (by assumption)]; unfold p_20; first | (rw [b_s ho_46, ho_49]; exact mFo.n) | (rw [b_s ho_46, b_n ho_49]; exact mFo.n)))⟩ dX8_usesArray_222
        | some z_49 =>
          rw [ho_49] at hm_49
          have hm_49 : r_49 = 1 ∧ (h_49, d_49) = z_49 := hm_49
          obtain ⟨e3, e4⟩ := hm_49
          subst e3; subst e4
          have ok_49 : okP (h_49, d_49) := ok_pop ok_46 _ ho_49
          refine lv_if_eq (tgt := 221) hx hb dX8_usesArray_203 (by decide) (fun h => absurd h (by decide)) (fun _ => ?_)
          refine lv_aload_n hx hb dX8_usesArray_206 rfl (lv_at hl 0 rfl) ?_
          refine s_get (a := 0) (b := 7) (ci := 6) X hw rfl rfl gX8 0 (by decide) fl_X8_10 rfl rfl dX8_usesArray_207 ?_
          refine lv_iconst (v := 5) hx hb dX8_usesArray_210 (by decide) ?_
          refine m_calli (m_runV (i := nm 0 8) (ci := 4) (As := [.int 5]) (rest := []) X (k_F6_pop Γ l L x 0 8 h_49 d_49 5 pO8 (by omega) ok_49 (by decide) (by decide)) v_X6_pop ml_X8_115 hw hS (p_obj Γ L (c := sP x 0 8 (h_49, d_49)) pO8) rfl rfl rfl hl.1 ⟨Nat.le_of_ble_eq_true rfl, Nat.le_of_ble_eq_true rfl⟩ (Nat.le_of_ble_eq_true rfl) ⟨Nat.le_of_ble_eq_true rfl, Nat.le_of_ble_eq_true rfl⟩ dX8_usesArray_211) hS (fun r_52 L1 M1 H locs hp_52 hw hS => ?_)
          obtain ⟨⟨h_52, d_52⟩, hd_52, e1, e2, hm_52, hz_52⟩ := hp_52
          have hd_52 : d_52 ≤ 8 := hd_52
          rw [e1, e2] at hw; clear e1 e2
          have hm_52 : mFo (p_pop (h_49, d_49) 5) r_52 (h_52, d_52) := hm_52
          cases ho_52 : p_pop (h_49, d_49) 5 with
          | none =>
            rw [ho_52] at hm_52
            have hm_52 : r_52 = 0 := hm_52
            subst hm_52
            have hw : mW Γ.1 vwCl A L (cM Γ L (sP x 0 8 (h_49, d_49))) H := by rw [hz_52 ho_52] at hw; exact hw
            refine lv_if_eq (tgt := 221) hx hb dX8_usesArray_214 (by decide) (fun _ => ?_) (fun h => absurd rfl h)
            refine lv_iconst (v := 0) hx hb dX8_usesArray_221 (by decide) ?_
            exact m_zret (b := false) X hr hlk hw hS (Nat.le_of_ble_eq_true rfl) (Nat.le_of_ble_eq_true rfl) rfl ⟨(h_49, d_49), by show d_49 ≤ 8; omega, rfl, rfl, (by first | (refine (fun (e9 : o = 14) => ?_) (by assumption); subst e9; show mFo (p_14 (h, d)) _ _; unfold p_14; first | (rw [b_s ho_46, b_s ho_49, ho_52]; exact mFo.n) | (rw [b_s ho_46, b_s ho_49, b_n ho_52]; exact mFo.n)) | (refine (fun (e9 : o = 15) => ?_) (by assumption); subst e9; show mFo (p_15 v (h, d)) _ _; unfold p_15; rw [if_pos (show r_isIn v 1 5 = true from (show k_cls v = true by assumption))]; first | (rw [b_s ho_46, b_s ho_49, ho_52]; exact mFo.n) | (rw [b_s ho_46, b_s ho_49, b_n ho_52]; exact mFo.n)) | (refine (fun (e9 : o = 16) => ?_) (by assumption); subst e9; show mFo (p_16 (h, d)) _ _; rw [p16_a ok ho_46, ho_49]; exact mFo.n) | (refine (fun (e9 : o = 17) => ?_) (by assumption); subst e9; show mFo (p_17 (h, d)) _ _; unfold p_17; first | (rw [b_s ho_46, b_s ho_49, ho_52]; exact mFo.n) | (rw [b_s ho_46, b_s ho_49, b_n ho_52]; exact mFo.n)) | (refine (fun (e9 : o = 18) => ?_) (by assumption); subst e9; show mFo (p_18 (h, d)) _ _; unfold p_18; first | (rw [b_s ho_46, b_s ho_49, ho_52]; exact mFo.n) | (rw [b_s ho_46, b_s ho_49, b_n ho_52]; exact mFo.n)) | (refine (fun (e9 : o = 19) => ?_) (by assumption); subst e9; show mFo (p_19 (h, d)) _ _; unfold p_19; first | (rw [b_s ho_46, b_s ho_49, ho_52]; exact mFo.n) | (rw [b_s ho_46, b_s ho_49, b_n ho_52]; exact mFo.n)) | (rw [f_arr_d (by assumption)]; unfold p_20; first | (rw [b_s ho_46, b_s ho_49, ho_52]; exact mFo.n) | (rw [b_s ho_46, b_s ho_49, b_n ho_52]; exact mFo.n)))⟩ dX8_usesArray_222
          | some z_52 =>
            rw [ho_52] at hm_52
            have hm_52 : r_52 = 1 ∧ (h_52, d_52) = z_52 := hm_52
            obtain ⟨e3, e4⟩ := hm_52
            subst e3; subst e4
            have ok_52 : okP (h_52, d_52) := ok_pop ok_49 _ ho_52
            refine lv_if_eq (tgt := 221) hx hb dX8_usesArray_214 (by decide) (fun h => absurd h (by decide)) (fun _ => ?_)
            refine lv_iconst (v := 1) hx hb dX8_usesArray_217 (by decide) ?_
            refine lv_goto (tgt := 222) hx hb dX8_usesArray_218 (by decide) ?_
            exact m_zret (b := true) X hr hlk hw hS (Nat.le_of_ble_eq_true rfl) (Nat.le_of_ble_eq_true rfl) rfl ⟨(h_52, d_52), by show d_52 ≤ 8; omega, rfl, rfl, (by first | (refine (fun (e9 : o = 14) => ?_) (by assumption); subst e9; show mFo (p_14 (h, d)) _ _; unfold p_14; first | (rw [b_s ho_46, b_s ho_49, ho_52]; exact mFo.s) | (rw [b_s ho_46, b_s ho_49, b_s ho_52]; exact mFo.s)) | (refine (fun (e9 : o = 15) => ?_) (by assumption); subst e9; show mFo (p_15 v (h, d)) _ _; unfold p_15; rw [if_pos (show r_isIn v 1 5 = true from (show k_cls v = true by assumption))]; first | (rw [b_s ho_46, b_s ho_49, ho_52]; exact mFo.s) | (rw [b_s ho_46, b_s ho_49, b_s ho_52]; exact mFo.s)) | (refine (fun (e9 : o = 16) => ?_) (by assumption); subst e9; show mFo (p_16 (h, d)) _ _; rw [p16_a ok ho_46, ho_49]; exact mFo.s) | (refine (fun (e9 : o = 17) => ?_) (by assumption); subst e9; show mFo (p_17 (h, d)) _ _; unfold p_17; first | (rw [b_s ho_46, b_s ho_49, ho_52]; exact mFo.s) | (rw [b_s ho_46, b_s ho_49, b_s ho_52]; exact mFo.s)) | (refine (fun (e9 : o = 18) => ?_) (by assumption); subst e9; show mFo (p_18 (h, d)) _ _; unfold p_18; first | (rw [b_s ho_46, b_s ho_49, ho_52]; exact mFo.s) | (rw [b_s ho_46, b_s ho_49, b_s ho_52]; exact mFo.s)) | (refine (fun (e9 : o = 19) => ?_) (by assumption); subst e9; show mFo (p_19 (h, d)) _ _; unfold p_19; first | (rw [b_s ho_46, b_s ho_49, ho_52]; exact mFo.s) | (rw [b_s ho_46, b_s ho_49, b_s ho_52]; exact mFo.s)) | (rw [f_arr_d (by assumption)]; unfold p_20; first | (rw [b_s ho_46, b_s ho_49, ho_52]; exact mFo.s) | (rw [b_s ho_46, b_s ho_49, b_s ho_52]; exact mFo.s)))⟩ dX8_usesArray_222
    · have c_1e : o = 19 := Int32.toInt_inj.mp c_1v
      refine lv_tableIn (off := 222) (tgt := 223) hx hb dX8_usesArray_1 (by omega) (by omega) (by rw [c_1v]; rfl) (by decide) ?_
      refine lv_aload_n hx hb dX8_usesArray_223 rfl (lv_at hl 0 rfl) ?_
      refine s_get (a := 0) (b := 7) (ci := 6) X hw rfl rfl gX8 0 (by decide) fl_X8_10 rfl rfl dX8_usesArray_224 ?_
      refine lv_iconst (v := 1) hx hb dX8_usesArray_227 (by decide) ?_
      refine m_calli (m_runV (i := nm 0 8) (ci := 4) (As := [.int 1]) (rest := []) X (k_F6_pop Γ l L x 0 8 h d 1 pO8 (by omega) ok (by decide) (by decide)) v_X6_pop ml_X8_115 hw hS (p_obj Γ L (c := sP x 0 8 (h, d)) pO8) rfl rfl rfl hl.1 ⟨Nat.le_of_ble_eq_true rfl, Nat.le_of_ble_eq_true rfl⟩ (Nat.le_of_ble_eq_true rfl) ⟨Nat.le_of_ble_eq_true rfl, Nat.le_of_ble_eq_true rfl⟩ dX8_usesArray_228) hS (fun r_55 L1 M1 H locs hp_55 hw hS => ?_)
      obtain ⟨⟨h_55, d_55⟩, hd_55, e1, e2, hm_55, hz_55⟩ := hp_55
      have hd_55 : d_55 ≤ 8 := hd_55
      rw [e1, e2] at hw; clear e1 e2
      have hm_55 : mFo (p_pop (h, d) 1) r_55 (h_55, d_55) := hm_55
      cases ho_55 : p_pop (h, d) 1 with
      | none =>
        rw [ho_55] at hm_55
        have hm_55 : r_55 = 0 := hm_55
        subst hm_55
        have hw : mW Γ.1 vwCl A L (cM Γ L (sP x 0 8 (h, d))) H := by rw [hz_55 ho_55] at hw; exact hw
        refine lv_if_eq (tgt := 252) hx hb dX8_usesArray_231 (by decide) (fun _ => ?_) (fun h => absurd rfl h)
        refine lv_iconst (v := 0) hx hb dX8_usesArray_252 (by decide) ?_
        exact m_zret (b := false) X hr hlk hw hS (Nat.le_of_ble_eq_true rfl) (Nat.le_of_ble_eq_true rfl) rfl ⟨(h, d), by show d ≤ 8; omega, rfl, rfl, (by first | (refine (fun (e9 : o = 14) => ?_) (by assumption); subst e9; show mFo (p_14 (h, d)) _ _; unfold p_14; first | (rw [ho_55]; exact mFo.n) | (rw [b_n ho_55]; exact mFo.n)) | (refine (fun (e9 : o = 15) => ?_) (by assumption); subst e9; show mFo (p_15 v (h, d)) _ _; unfold p_15; rw [if_pos (show r_isIn v 1 5 = true from (show k_cls v = true by assumption))]; first | (rw [ho_55]; exact mFo.n) | (rw [b_n ho_55]; exact mFo.n)) | (refine (fun (e9 : o = 17) => ?_) (by assumption); subst e9; show mFo (p_17 (h, d)) _ _; unfold p_17; first | (rw [ho_55]; exact mFo.n) | (rw [b_n ho_55]; exact mFo.n)) | (refine (fun (e9 : o = 18) => ?_) (by assumption); subst e9; show mFo (p_18 (h, d)) _ _; unfold p_18; first | (rw [ho_55]; exact mFo.n) | (rw [b_n ho_55]; exact mFo.n)) | (refine (fun (e9 : o = 19) => ?_) (by assumption); subst e9; show mFo (p_19 (h, d)) _ _; unfold p_19; first | (rw [ho_55]; exact mFo.n) | (rw [b_n ho_55]; exact mFo.n)) | (rw [f_arr_d (by assumption)]; unfold p_20; first | (rw [ho_55]; exact mFo.n) | (rw [b_n ho_55]; exact mFo.n)))⟩ dX8_usesArray_253
      | some z_55 =>
        rw [ho_55] at hm_55
        have hm_55 : r_55 = 1 ∧ (h_55, d_55) = z_55 := hm_55
        obtain ⟨e3, e4⟩ := hm_55
        subst e3; subst e4
        have ok_55 : okP (h_55, d_55) := ok_pop ok _ ho_55
        refine lv_if_eq (tgt := 252) hx hb dX8_usesArray_231 (by decide) (fun h => absurd h (by decide)) (fun _ => ?_)
        refine lv_aload_n hx hb dX8_usesArray_234 rfl (lv_at hl 0 rfl) ?_
        refine lv_aload_n hx hb dX8_usesArray_235 rfl (lv_at hl 0 rfl) ?_
        refine s_get (a := 0) (b := 7) (ci := 6) X hw rfl rfl gX8 0 (by decide) fl_X8_10 rfl rfl dX8_usesArray_236 ?_
        refine m_calli (m_runV (i := nm 0 8) (ci := 4) (As := []) (rest := [.ref (L (nm 0 7))]) X (k_F6_popRow Γ l L x 0 8 h_55 d_55  pO8 (by omega)) v_X6_popRow ml_X8_130 hw hS (p_obj Γ L (c := sP x 0 8 (h_55, d_55)) pO8) rfl rfl rfl hl.1 ⟨Nat.le_of_ble_eq_true rfl, Nat.le_of_ble_eq_true rfl⟩ (Nat.le_of_ble_eq_true rfl) ⟨Nat.le_of_ble_eq_true rfl, Nat.le_of_ble_eq_true rfl⟩ dX8_usesArray_239) hS (fun r_58 L1 M1 H locs hp_58 hw hS => ?_)
        obtain ⟨e1, er_58, e2⟩ := hp_58
        rw [e1, e2] at hw; clear e1 e2
        by_cases po_58 : ¬ d_55 = 0 ∧ p_isRowN (h_55 (7 + d_55)) = true
        · rw [f_row_y po_58] at er_58 hw
          have er_58 : r_58 = h_55 (7 + d_55) := er_58
          subst er_58
          have hpos_58 : 0 < d_55 := f_row_y_p po_58
          have hw : mW Γ.1 vwCl A L (cM Γ L (sP x 0 8 (h_55, d_55 - 1))) H := hw
          have ok_58 : okP (h_55, d_55 - 1) := ok_dropn (q := (h_55, d_55)) (n := 1) ok_55
          refine m_calli (m_runV (i := nm 0 7) (ci := 6) (As := [.int (h_55 (7 + d_55))]) (rest := []) X (k_F8_takes Γ l L x h_55 (d_55 - 1) (h_55 (7 + d_55)) (by omega) ok_58) v_X8_takes ml_X8_133 hw hS rfl rfl rfl rfl hl.1 ⟨Nat.le_of_ble_eq_true rfl, Nat.le_of_ble_eq_true rfl⟩ (Nat.le_of_ble_eq_true rfl) ⟨Nat.le_of_ble_eq_true rfl, Nat.le_of_ble_eq_true rfl⟩ dX8_usesArray_242) hS (fun r_59 L1 M1 H locs hp_59 hw hS => ?_)
          obtain ⟨⟨h_59, d_59⟩, hd_59, e1, e2, hm_59⟩ := hp_59
          have hd_59 : d_59 ≤ 8 := hd_59
          rw [e1, e2] at hw; clear e1 e2
          have hm_59 : mFo (f_tak (h_55 (7 + d_55)) (h_55, d_55 - 1)) r_59 (h_59, d_59) := hm_59
          cases ho_59 : f_tak (h_55 (7 + d_55)) (h_55, d_55 - 1) with
          | none =>
            rw [ho_59] at hm_59
            have hm_59 : r_59 = 0 := hm_59
            subst hm_59
            refine lv_if_eq (tgt := 252) hx hb dX8_usesArray_245 (by decide) (fun _ => ?_) (fun h => absurd rfl h)
            refine lv_iconst (v := 0) hx hb dX8_usesArray_252 (by decide) ?_
            exact m_zret (b := false) X hr hlk hw hS (Nat.le_of_ble_eq_true rfl) (Nat.le_of_ble_eq_true rfl) rfl ⟨(h_59, d_59), by show d_59 ≤ 8; omega, rfl, rfl, (by first | (exact absurd (by assumption) (row_n0 po_58)) | (refine (fun (e9 : o = 14) => ?_) (by assumption); subst e9; show mFo (p_14 (h, d)) _ _; unfold p_14; first | (rw [b_s ho_55, ho_59]; exact mFo.n) | (rw [b_s ho_55, b_n ho_59]; exact mFo.n)) | (refine (fun (e9 : o = 15) => ?_) (by assumption); subst e9; show mFo (p_15 v (h, d)) _ _; unfold p_15; rw [if_pos (show r_isIn v 1 5 = true from (show k_cls v = true by assumption))]; first | (rw [b_s ho_55, ho_59]; exact mFo.n) | (rw [b_s ho_55, b_n ho_59]; exact mFo.n)) | (refine (fun (e9 : o = 16) => ?_) (by assumption); subst e9; show mFo (p_16 (h, d)) _ _; rw [p16_a ok ho_55, ho_59]; exact mFo.n) | (refine (fun (e9 : o = 17) => ?_) (by assumption); subst e9; show mFo (p_17 (h, d)) _ _; unfold p_17; first | (rw [b_s ho_55, ho_59]; exact mFo.n) | (rw [b_s ho_55, b_n ho_59]; exact mFo.n)) | (refine (fun (e9 : o = 18) => ?_) (by assumption); subst e9; show mFo (p_18 (h, d)) _ _; unfold p_18; first | (rw [b_s ho_55, ho_59]; exact mFo.n) | (rw [b_s ho_55, b_n ho_59]; exact mFo.n)) | (refine (fun (e9 : o = 19) => ?_) (by assumption); subst e9; show mFo (p_19 (h, d)) _ _; unfold p_19; rw [b_s ho_55, if_pos po_58]; show mFo (p_push (h_55, d_55 - 1) (if h_55 (7 + d_55) = 4 then 4 else 10 + h_55 (7 + d_55) - 20)) _ _; rw [← tak_y po_58.2, ho_59]; exact mFo.n) | (rw [f_arr_d (by assumption)]; unfold p_20; rw [b_s ho_55, b_s ho_59, if_pos po_58]; exact mFo.s))⟩ dX8_usesArray_253
          | some z_59 =>
            rw [ho_59] at hm_59
            have hm_59 : r_59 = 1 ∧ (h_59, d_59) = z_59 := hm_59
            obtain ⟨e3, e4⟩ := hm_59
            subst e3; subst e4
            refine lv_if_eq (tgt := 252) hx hb dX8_usesArray_245 (by decide) (fun h => absurd h (by decide)) (fun _ => ?_)
            refine lv_iconst (v := 1) hx hb dX8_usesArray_248 (by decide) ?_
            refine lv_goto (tgt := 253) hx hb dX8_usesArray_249 (by decide) ?_
            exact m_zret (b := true) X hr hlk hw hS (Nat.le_of_ble_eq_true rfl) (Nat.le_of_ble_eq_true rfl) rfl ⟨(h_59, d_59), by show d_59 ≤ 8; omega, rfl, rfl, (by first | (refine (fun (e9 : o = 14) => ?_) (by assumption); subst e9; show mFo (p_14 (h, d)) _ _; unfold p_14; first | (rw [b_s ho_55, ho_59]; exact mFo.s) | (rw [b_s ho_55, b_s ho_59]; exact mFo.s)) | (refine (fun (e9 : o = 15) => ?_) (by assumption); subst e9; show mFo (p_15 v (h, d)) _ _; unfold p_15; rw [if_pos (show r_isIn v 1 5 = true from (show k_cls v = true by assumption))]; first | (rw [b_s ho_55, ho_59]; exact mFo.s) | (rw [b_s ho_55, b_s ho_59]; exact mFo.s)) | (refine (fun (e9 : o = 16) => ?_) (by assumption); subst e9; show mFo (p_16 (h, d)) _ _; rw [p16_a ok ho_55, ho_59]; exact mFo.s) | (refine (fun (e9 : o = 17) => ?_) (by assumption); subst e9; show mFo (p_17 (h, d)) _ _; unfold p_17; first | (rw [b_s ho_55, ho_59]; exact mFo.s) | (rw [b_s ho_55, b_s ho_59]; exact mFo.s)) | (refine (fun (e9 : o = 18) => ?_) (by assumption); subst e9; show mFo (p_18 (h, d)) _ _; unfold p_18; first | (rw [b_s ho_55, ho_59]; exact mFo.s) | (rw [b_s ho_55, b_s ho_59]; exact mFo.s)) | (refine (fun (e9 : o = 19) => ?_) (by assumption); subst e9; show mFo (p_19 (h, d)) _ _; unfold p_19; rw [b_s ho_55, if_pos po_58]; show mFo (p_push (h_55, d_55 - 1) (if h_55 (7 + d_55) = 4 then 4 else 10 + h_55 (7 + d_55) - 20)) _ _; rw [← tak_y po_58.2, ho_59]; exact mFo.s) | (rw [f_arr_d (by assumption)]; unfold p_20; rw [b_s ho_55, b_s ho_59, if_pos po_58]; exact mFo.s))⟩ dX8_usesArray_253
        · rw [f_row_x po_58] at er_58 hw
          have er_58 : r_58 = 0 := er_58
          subst er_58
          have hw : mW Γ.1 vwCl A L (cM Γ L (sP x 0 8 (h_55, d_55))) H := hw
          refine m_calli (m_runV (i := nm 0 7) (ci := 6) (As := [.int 0]) (rest := []) X (k_F8_takes Γ l L x h_55 d_55 0 (by omega) ok_55) v_X8_takes ml_X8_133 hw hS rfl rfl rfl rfl hl.1 ⟨Nat.le_of_ble_eq_true rfl, Nat.le_of_ble_eq_true rfl⟩ (Nat.le_of_ble_eq_true rfl) ⟨Nat.le_of_ble_eq_true rfl, Nat.le_of_ble_eq_true rfl⟩ dX8_usesArray_242) hS (fun r_62 L1 M1 H locs hp_62 hw hS => ?_)
          obtain ⟨⟨h_62, d_62⟩, hd_62, e1, e2, hm_62⟩ := hp_62
          have hd_62 : d_62 ≤ 8 := hd_62
          rw [e1, e2] at hw; clear e1 e2
          have hm_62 : mFo (f_tak 0 (h_55, d_55)) r_62 (h_62, d_62) := hm_62
          cases ho_62 : f_tak 0 (h_55, d_55) with
          | none =>
            rw [ho_62] at hm_62
            have hm_62 : r_62 = 0 := hm_62
            subst hm_62
            refine lv_if_eq (tgt := 252) hx hb dX8_usesArray_245 (by decide) (fun _ => ?_) (fun h => absurd rfl h)
            refine lv_iconst (v := 0) hx hb dX8_usesArray_252 (by decide) ?_
            exact m_zret (b := false) X hr hlk hw hS (Nat.le_of_ble_eq_true rfl) (Nat.le_of_ble_eq_true rfl) rfl ⟨(h_62, d_62), by show d_62 ≤ 8; omega, rfl, rfl, (by first | (refine (fun (e9 : o = 14) => ?_) (by assumption); subst e9; show mFo (p_14 (h, d)) _ _; unfold p_14; first | (rw [b_s ho_55, ho_62]; exact mFo.n) | (rw [b_s ho_55, b_n ho_62]; exact mFo.n)) | (refine (fun (e9 : o = 15) => ?_) (by assumption); subst e9; show mFo (p_15 v (h, d)) _ _; unfold p_15; rw [if_pos (show r_isIn v 1 5 = true from (show k_cls v = true by assumption))]; first | (rw [b_s ho_55, ho_62]; exact mFo.n) | (rw [b_s ho_55, b_n ho_62]; exact mFo.n)) | (refine (fun (e9 : o = 16) => ?_) (by assumption); subst e9; show mFo (p_16 (h, d)) _ _; rw [p16_a ok ho_55, ho_62]; exact mFo.n) | (refine (fun (e9 : o = 17) => ?_) (by assumption); subst e9; show mFo (p_17 (h, d)) _ _; unfold p_17; first | (rw [b_s ho_55, ho_62]; exact mFo.n) | (rw [b_s ho_55, b_n ho_62]; exact mFo.n)) | (refine (fun (e9 : o = 18) => ?_) (by assumption); subst e9; show mFo (p_18 (h, d)) _ _; unfold p_18; first | (rw [b_s ho_55, ho_62]; exact mFo.n) | (rw [b_s ho_55, b_n ho_62]; exact mFo.n)) | (refine (fun (e9 : o = 19) => ?_) (by assumption); subst e9; show mFo (p_19 (h, d)) _ _; unfold p_19; rw [b_s ho_55, if_neg po_58]; exact mFo.n) | (rw [f_arr_d (by assumption)]; unfold p_20; rw [b_s ho_55, b_s ho_62, if_neg po_58]; exact mFo.n))⟩ dX8_usesArray_253
          | some z_62 =>
            rw [ho_62] at hm_62
            have hm_62 : r_62 = 1 ∧ (h_62, d_62) = z_62 := hm_62
            obtain ⟨e3, e4⟩ := hm_62
            subst e3; subst e4
            refine lv_if_eq (tgt := 252) hx hb dX8_usesArray_245 (by decide) (fun h => absurd h (by decide)) (fun _ => ?_)
            refine lv_iconst (v := 1) hx hb dX8_usesArray_248 (by decide) ?_
            refine lv_goto (tgt := 253) hx hb dX8_usesArray_249 (by decide) ?_
            exact m_zret (b := true) X hr hlk hw hS (Nat.le_of_ble_eq_true rfl) (Nat.le_of_ble_eq_true rfl) rfl ⟨(h_62, d_62), by show d_62 ≤ 8; omega, rfl, rfl, (by first | (refine (fun (e9 : o = 14) => ?_) (by assumption); subst e9; show mFo (p_14 (h, d)) _ _; unfold p_14; first | (rw [b_s ho_55, ho_62]; exact mFo.s) | (rw [b_s ho_55, b_s ho_62]; exact mFo.s)) | (refine (fun (e9 : o = 15) => ?_) (by assumption); subst e9; show mFo (p_15 v (h, d)) _ _; unfold p_15; rw [if_pos (show r_isIn v 1 5 = true from (show k_cls v = true by assumption))]; first | (rw [b_s ho_55, ho_62]; exact mFo.s) | (rw [b_s ho_55, b_s ho_62]; exact mFo.s)) | (refine (fun (e9 : o = 16) => ?_) (by assumption); subst e9; show mFo (p_16 (h, d)) _ _; rw [p16_a ok ho_55, ho_62]; exact mFo.s) | (refine (fun (e9 : o = 17) => ?_) (by assumption); subst e9; show mFo (p_17 (h, d)) _ _; unfold p_17; first | (rw [b_s ho_55, ho_62]; exact mFo.s) | (rw [b_s ho_55, b_s ho_62]; exact mFo.s)) | (refine (fun (e9 : o = 18) => ?_) (by assumption); subst e9; show mFo (p_18 (h, d)) _ _; unfold p_18; first | (rw [b_s ho_55, ho_62]; exact mFo.s) | (rw [b_s ho_55, b_s ho_62]; exact mFo.s)) | (refine (fun (e9 : o = 19) => ?_) (by assumption); subst e9; show mFo (p_19 (h, d)) _ _; rw [tak_n] at ho_62; cases ho_62) | (rw [f_arr_d (by assumption)]; unfold p_20; rw [b_s ho_55, b_s ho_62, if_neg po_58]; exact mFo.n))⟩ dX8_usesArray_253
set_option maxHeartbeats 4000000 in
set_option maxRecDepth 100000 in
theorem k_F8_usesObject (Γ : mG) (l : Launch) (L : mI → Nat) (x : CS) (h : Nat → Int32) (d : Nat) (o : Int32) (v : Int64) (hd : d ≤ 8) (ok : okP (h, d)) : mMet Γ l yX8_usesObject cX8_usesObject 4 (some .boolean) { frames := 3, cells := 0, slots := 0, locals := 63 } [.ref (L (nm 0 7)), .int o, .long v] L (cM Γ L (sP x 0 8 (h, d))) (mQi Γ (mFz Γ L x 0 8 (f_obj o v (h, d)))) := by
  refine m_start (by decide) (Nat.le_of_ble_eq_true rfl) ?_
  intro p e s m args below meth c A ls X hr hlk hnm hw hS hl
  have hx := X.1.1
  have hb := X.1.2.1
  have hl : lv_has ls 4 [(0, .ref (L (nm 0 7))), (1, .int o), (2, .long v)] := hl
  refine lv_iload_n hx hb dX8_usesObject_0 rfl (lv_at hl 1 rfl) ?_
  by_cases c_1 : o.toInt < 21 ∨ 24 < o.toInt
  · refine lv_tableOut (tgt := 137) hx hb dX8_usesObject_1 c_1 (by decide) ?_
    refine lv_aload_n hx hb dX8_usesObject_137 rfl (lv_at hl 0 rfl) ?_
    refine s_get (a := 0) (b := 7) (ci := 6) X hw rfl rfl gX8 0 (by decide) fl_X8_10 rfl rfl dX8_usesObject_138 ?_
    refine lv_bipush (v := 11) hx hb dX8_usesObject_141 (by decide) ?_
    refine m_calli (m_runV (i := nm 0 8) (ci := 4) (As := [.int 11]) (rest := []) X (k_F6_pop Γ l L x 0 8 h d 11 pO8 (by omega) ok (by decide) (by decide)) v_X6_pop ml_X8_115 hw hS (p_obj Γ L (c := sP x 0 8 (h, d)) pO8) rfl rfl rfl hl.1 ⟨Nat.le_of_ble_eq_true rfl, Nat.le_of_ble_eq_true rfl⟩ (Nat.le_of_ble_eq_true rfl) ⟨Nat.le_of_ble_eq_true rfl, Nat.le_of_ble_eq_true rfl⟩ dX8_usesObject_143) hS (fun r_2 L1 M1 H locs hp_2 hw hS => ?_)
    obtain ⟨⟨h_2, d_2⟩, hd_2, e1, e2, hm_2, hz_2⟩ := hp_2
    have hd_2 : d_2 ≤ 8 := hd_2
    rw [e1, e2] at hw; clear e1 e2
    have hm_2 : mFo (p_pop (h, d) 11) r_2 (h_2, d_2) := hm_2
    cases ho_2 : p_pop (h, d) 11 with
    | none =>
      rw [ho_2] at hm_2
      have hm_2 : r_2 = 0 := hm_2
      subst hm_2
      have hw : mW Γ.1 vwCl A L (cM Γ L (sP x 0 8 (h, d))) H := by rw [hz_2 ho_2] at hw; exact hw
      refine lv_if_eq (tgt := 164) hx hb dX8_usesObject_146 (by decide) (fun _ => ?_) (fun h => absurd rfl h)
      refine lv_iconst (v := 0) hx hb dX8_usesObject_164 (by decide) ?_
      exact m_zret (b := false) X hr hlk hw hS (Nat.le_of_ble_eq_true rfl) (Nat.le_of_ble_eq_true rfl) rfl ⟨(h, d), by show d ≤ 8; omega, rfl, rfl, (by first | (refine (fun (e9 : o = 21) => ?_) (by assumption); subst e9; show mFo (p_21 21 v (h, d)) _ _; unfold p_21; rw [if_pos (show r_isIn v 0 7 = true from (show k_cof v = true by assumption)), b_n ho_2]; exact mFo.n) | (refine (fun (e9 : o = 22) => ?_) (by assumption); subst e9; show mFo (p_21 22 v (h, d)) _ _; unfold p_21; rw [if_pos (show r_isIn v 0 7 = true from (show k_cof v = true by assumption)), b_n ho_2]; exact mFo.n) | (refine (fun (e9 : o = 24) => ?_) (by assumption); subst e9; show mFo (p_24 (h, d)) _ _; unfold p_24; first | (rw [ho_2]; exact mFo.n) | (rw [b_n ho_2]; exact mFo.n)) | (refine (fun (e9 : o = 23) => ?_) (by assumption); subst e9; show mFo (p_23 (h, d)) _ _; unfold p_23; first | (rw [ho_2]; exact mFo.n) | (rw [b_n ho_2]; exact mFo.n)) | (rw [f_obj_d (by assumption)]; unfold p_23; first | (rw [ho_2]; exact mFo.n) | (rw [b_n ho_2]; exact mFo.n)))⟩ dX8_usesObject_165
    | some z_2 =>
      rw [ho_2] at hm_2
      have hm_2 : r_2 = 1 ∧ (h_2, d_2) = z_2 := hm_2
      obtain ⟨e3, e4⟩ := hm_2
      subst e3; subst e4
      have ok_2 : okP (h_2, d_2) := ok_pop ok _ ho_2
      refine lv_if_eq (tgt := 164) hx hb dX8_usesObject_146 (by decide) (fun h => absurd h (by decide)) (fun _ => ?_)
      refine lv_aload_n hx hb dX8_usesObject_149 rfl (lv_at hl 0 rfl) ?_
      refine s_get (a := 0) (b := 7) (ci := 6) X hw rfl rfl gX8 0 (by decide) fl_X8_10 rfl rfl dX8_usesObject_150 ?_
      refine lv_iconst (v := 1) hx hb dX8_usesObject_153 (by decide) ?_
      refine m_calli (m_runV (i := nm 0 8) (ci := 4) (As := [.int 1]) (rest := []) X (k_F6_push Γ l L x 0 8 h_2 d_2 1 pO8 (by omega)) v_X6_push ml_X8_74 hw hS (p_obj Γ L (c := sP x 0 8 (h_2, d_2)) pO8) rfl rfl rfl hl.1 ⟨Nat.le_of_ble_eq_true rfl, Nat.le_of_ble_eq_true rfl⟩ (Nat.le_of_ble_eq_true rfl) ⟨Nat.le_of_ble_eq_true rfl, Nat.le_of_ble_eq_true rfl⟩ dX8_usesObject_154) hS (fun r_5 L1 M1 H locs hp_5 hw hS => ?_)
      obtain ⟨⟨h_5, d_5⟩, hd_5, e1, e2, hm_5⟩ := hp_5
      have hd_5 : d_5 ≤ 8 := hd_5
      rw [e1, e2] at hw; clear e1 e2
      have hm_5 : mFo (p_push (h_2, d_2) 1) r_5 (h_5, d_5) := hm_5
      cases ho_5 : p_push (h_2, d_2) 1 with
      | none =>
        rw [ho_5] at hm_5
        have hm_5 : r_5 = 0 := hm_5
        subst hm_5
        refine lv_if_eq (tgt := 164) hx hb dX8_usesObject_157 (by decide) (fun _ => ?_) (fun h => absurd rfl h)
        refine lv_iconst (v := 0) hx hb dX8_usesObject_164 (by decide) ?_
        exact m_zret (b := false) X hr hlk hw hS (Nat.le_of_ble_eq_true rfl) (Nat.le_of_ble_eq_true rfl) rfl ⟨(h_5, d_5), by show d_5 ≤ 8; omega, rfl, rfl, (by first | (refine (fun (e9 : o = 21) => ?_) (by assumption); subst e9; show mFo (p_21 21 v (h, d)) _ _; unfold p_21; rw [if_pos (show r_isIn v 0 7 = true from (show k_cof v = true by assumption)), b_s ho_2]; show mFo (p_push (h_2, d_2) (10 + v.toInt32)) _ _; rw [ho_5]; exact mFo.n) | (refine (fun (e9 : o = 22) => ?_) (by assumption); subst e9; show mFo (p_21 22 v (h, d)) _ _; unfold p_21; rw [if_pos (show r_isIn v 0 7 = true from (show k_cof v = true by assumption)), b_s ho_2]; show mFo (p_push (h_2, d_2) (1)) _ _; rw [ho_5]; exact mFo.n) | (refine (fun (e9 : o = 24) => ?_) (by assumption); subst e9; show mFo (p_24 (h, d)) _ _; unfold p_24; first | (rw [b_s ho_2, ho_5]; exact mFo.n) | (rw [b_s ho_2, b_n ho_5]; exact mFo.n)) | (refine (fun (e9 : o = 23) => ?_) (by assumption); subst e9; show mFo (p_23 (h, d)) _ _; unfold p_23; first | (rw [b_s ho_2, ho_5]; exact mFo.n) | (rw [b_s ho_2, b_n ho_5]; exact mFo.n)) | (rw [f_obj_d (by assumption)]; unfold p_23; first | (rw [b_s ho_2, ho_5]; exact mFo.n) | (rw [b_s ho_2, b_n ho_5]; exact mFo.n)))⟩ dX8_usesObject_165
      | some z_5 =>
        rw [ho_5] at hm_5
        have hm_5 : r_5 = 1 ∧ (h_5, d_5) = z_5 := hm_5
        obtain ⟨e3, e4⟩ := hm_5
        subst e3; subst e4
        refine lv_if_eq (tgt := 164) hx hb dX8_usesObject_157 (by decide) (fun h => absurd h (by decide)) (fun _ => ?_)
        refine lv_iconst (v := 1) hx hb dX8_usesObject_160 (by decide) ?_
        refine lv_goto (tgt := 165) hx hb dX8_usesObject_161 (by decide) ?_
        exact m_zret (b := true) X hr hlk hw hS (Nat.le_of_ble_eq_true rfl) (Nat.le_of_ble_eq_true rfl) rfl ⟨(h_5, d_5), by show d_5 ≤ 8; omega, rfl, rfl, (by first | (refine (fun (e9 : o = 21) => ?_) (by assumption); subst e9; show mFo (p_21 21 v (h, d)) _ _; unfold p_21; rw [if_pos (show r_isIn v 0 7 = true from (show k_cof v = true by assumption)), b_s ho_2]; show mFo (p_push (h_2, d_2) (10 + v.toInt32)) _ _; rw [ho_5]; exact mFo.s) | (refine (fun (e9 : o = 22) => ?_) (by assumption); subst e9; show mFo (p_21 22 v (h, d)) _ _; unfold p_21; rw [if_pos (show r_isIn v 0 7 = true from (show k_cof v = true by assumption)), b_s ho_2]; show mFo (p_push (h_2, d_2) (1)) _ _; rw [ho_5]; exact mFo.s) | (refine (fun (e9 : o = 24) => ?_) (by assumption); subst e9; show mFo (p_24 (h, d)) _ _; unfold p_24; first | (rw [b_s ho_2, ho_5]; exact mFo.s) | (rw [b_s ho_2, b_s ho_5]; exact mFo.s)) | (refine (fun (e9 : o = 23) => ?_) (by assumption); subst e9; show mFo (p_23 (h, d)) _ _; unfold p_23; first | (rw [b_s ho_2, ho_5]; exact mFo.s) | (rw [b_s ho_2, b_s ho_5]; exact mFo.s)) | (rw [f_obj_d (by assumption)]; unfold p_23; first | (rw [b_s ho_2, ho_5]; exact mFo.s) | (rw [b_s ho_2, b_s ho_5]; exact mFo.s)))⟩ dX8_usesObject_165
  · have c_1b : o.toInt = 21 ∨ o.toInt = 22 ∨ o.toInt = 23 ∨ o.toInt = 24 := by omega
    rcases c_1b with c_1v | c_1v | c_1v | c_1v
    · have c_1e : o = 21 := Int32.toInt_inj.mp c_1v
      refine lv_tableIn (off := 31) (tgt := 32) hx hb dX8_usesObject_1 (by omega) (by omega) (by rw [c_1v]; rfl) (by decide) ?_
      refine lv_lload_n hx hb dX8_usesObject_32 rfl (lv_at hl 2 rfl) ?_
      refine m_calli (m_runS (As := [.long v]) (rest := []) X (k_X3_isClassOrFace Γ l L (cM Γ L (sP x 0 8 (h, d))) v) s_X3_isClassOrFace ml_X8_139 hw hS rfl hl.1 ⟨Nat.le_of_ble_eq_true rfl, Nat.le_of_ble_eq_true rfl⟩ (Nat.le_of_ble_eq_true rfl) ⟨Nat.le_of_ble_eq_true rfl, Nat.le_of_ble_eq_true rfl⟩ dX8_usesObject_33) hS (fun r_8 L1 M1 H locs hp_8 hw hS => ?_)
      obtain ⟨rfl, e1, e2⟩ := hp_8
      rw [e1, e2] at hw; clear e1 e2
      refine lv_if_eq (tgt := 70) hx hb dX8_usesObject_36 (by decide) (fun c_9 => ?_) (fun c_9 => ?_)
      · skip
        have c_9 := bI_f c_9
        refine lv_iconst (v := 0) hx hb dX8_usesObject_70 (by decide) ?_
        exact m_zret (b := false) X hr hlk hw hS (Nat.le_of_ble_eq_true rfl) (Nat.le_of_ble_eq_true rfl) rfl ⟨(h, d), by show d ≤ 8; omega, rfl, rfl, (by first | (refine (fun (e9 : o = 21) => ?_) (by assumption); subst e9; show mFo (p_21 21 v (h, d)) _ _; unfold p_21; rw [if_neg (show ¬ r_isIn v 0 7 = true from (fun z9 => absurd (show k_cof v = true from z9) (by rw [show k_cof v = false by assumption]; decide)))]; exact mFo.n) | (refine (fun (e9 : o = 22) => ?_) (by assumption); subst e9; show mFo (p_21 22 v (h, d)) _ _; unfold p_21; rw [if_neg (show ¬ r_isIn v 0 7 = true from (fun z9 => absurd (show k_cof v = true from z9) (by rw [show k_cof v = false by assumption]; decide)))]; exact mFo.n))⟩ dX8_usesObject_71
      · skip
        have c_9 := bI_t c_9
        refine lv_aload_n hx hb dX8_usesObject_39 rfl (lv_at hl 0 rfl) ?_
        refine s_get (a := 0) (b := 7) (ci := 6) X hw rfl rfl gX8 0 (by decide) fl_X8_10 rfl rfl dX8_usesObject_40 ?_
        refine lv_bipush (v := 10) hx hb dX8_usesObject_43 (by decide) ?_
        refine m_calli (m_runV (i := nm 0 8) (ci := 4) (As := [.int 10]) (rest := []) X (k_F6_pop Γ l L x 0 8 h d 10 pO8 (by omega) ok (by decide) (by decide)) v_X6_pop ml_X8_115 hw hS (p_obj Γ L (c := sP x 0 8 (h, d)) pO8) rfl rfl rfl hl.1 ⟨Nat.le_of_ble_eq_true rfl, Nat.le_of_ble_eq_true rfl⟩ (Nat.le_of_ble_eq_true rfl) ⟨Nat.le_of_ble_eq_true rfl, Nat.le_of_ble_eq_true rfl⟩ dX8_usesObject_45) hS (fun r_10 L1 M1 H locs hp_10 hw hS => ?_)
        obtain ⟨⟨h_10, d_10⟩, hd_10, e1, e2, hm_10, hz_10⟩ := hp_10
        have hd_10 : d_10 ≤ 8 := hd_10
        rw [e1, e2] at hw; clear e1 e2
        have hm_10 : mFo (p_pop (h, d) 10) r_10 (h_10, d_10) := hm_10
        cases ho_10 : p_pop (h, d) 10 with
        | none =>
          rw [ho_10] at hm_10
          have hm_10 : r_10 = 0 := hm_10
          subst hm_10
          have hw : mW Γ.1 vwCl A L (cM Γ L (sP x 0 8 (h, d))) H := by rw [hz_10 ho_10] at hw; exact hw
          refine lv_if_eq (tgt := 70) hx hb dX8_usesObject_48 (by decide) (fun _ => ?_) (fun h => absurd rfl h)
          refine lv_iconst (v := 0) hx hb dX8_usesObject_70 (by decide) ?_
          exact m_zret (b := false) X hr hlk hw hS (Nat.le_of_ble_eq_true rfl) (Nat.le_of_ble_eq_true rfl) rfl ⟨(h, d), by show d ≤ 8; omega, rfl, rfl, (by first | (refine (fun (e9 : o = 21) => ?_) (by assumption); subst e9; show mFo (p_21 21 v (h, d)) _ _; unfold p_21; rw [if_pos (show r_isIn v 0 7 = true from (show k_cof v = true by assumption)), b_n ho_10]; exact mFo.n) | (refine (fun (e9 : o = 22) => ?_) (by assumption); subst e9; show mFo (p_21 22 v (h, d)) _ _; unfold p_21; rw [if_pos (show r_isIn v 0 7 = true from (show k_cof v = true by assumption)), b_n ho_10]; exact mFo.n) | (refine (fun (e9 : o = 24) => ?_) (by assumption); subst e9; show mFo (p_24 (h, d)) _ _; unfold p_24; first | (rw [ho_10]; exact mFo.n) | (rw [b_n ho_10]; exact mFo.n)) | (refine (fun (e9 : o = 23) => ?_) (by assumption); subst e9; show mFo (p_23 (h, d)) _ _; unfold p_23; first | (rw [ho_10]; exact mFo.n) | (rw [b_n ho_10]; exact mFo.n)) | (rw [f_obj_d (by assumption)]; unfold p_23; first | (rw [ho_10]; exact mFo.n) | (rw [b_n ho_10]; exact mFo.n)))⟩ dX8_usesObject_71
        | some z_10 =>
          rw [ho_10] at hm_10
          have hm_10 : r_10 = 1 ∧ (h_10, d_10) = z_10 := hm_10
          obtain ⟨e3, e4⟩ := hm_10
          subst e3; subst e4
          have ok_10 : okP (h_10, d_10) := ok_pop ok _ ho_10
          refine lv_if_eq (tgt := 70) hx hb dX8_usesObject_48 (by decide) (fun h => absurd h (by decide)) (fun _ => ?_)
          refine lv_aload_n hx hb dX8_usesObject_51 rfl (lv_at hl 0 rfl) ?_
          refine s_get (a := 0) (b := 7) (ci := 6) X hw rfl rfl gX8 0 (by decide) fl_X8_10 rfl rfl dX8_usesObject_52 ?_
          refine lv_bipush (v := 10) hx hb dX8_usesObject_55 (by decide) ?_
          refine lv_lload_n hx hb dX8_usesObject_57 rfl (lv_at hl 2 rfl) ?_
          refine lv_l2i (v := v.toInt32) hx hb dX8_usesObject_58 rfl ?_
          refine lv_iadd hx hb dX8_usesObject_59 ?_
          refine m_calli (m_runV (i := nm 0 8) (ci := 4) (As := [.int (10 + v.toInt32)]) (rest := []) X (k_F6_push Γ l L x 0 8 h_10 d_10 (10 + v.toInt32) pO8 (by omega)) v_X6_push ml_X8_74 hw hS (p_obj Γ L (c := sP x 0 8 (h_10, d_10)) pO8) rfl rfl rfl hl.1 ⟨Nat.le_of_ble_eq_true rfl, Nat.le_of_ble_eq_true rfl⟩ (Nat.le_of_ble_eq_true rfl) ⟨Nat.le_of_ble_eq_true rfl, Nat.le_of_ble_eq_true rfl⟩ dX8_usesObject_60) hS (fun r_13 L1 M1 H locs hp_13 hw hS => ?_)
          obtain ⟨⟨h_13, d_13⟩, hd_13, e1, e2, hm_13⟩ := hp_13
          have hd_13 : d_13 ≤ 8 := hd_13
          rw [e1, e2] at hw; clear e1 e2
          have hm_13 : mFo (p_push (h_10, d_10) (10 + v.toInt32)) r_13 (h_13, d_13) := hm_13
          cases ho_13 : p_push (h_10, d_10) (10 + v.toInt32) with
          | none =>
            rw [ho_13] at hm_13
            have hm_13 : r_13 = 0 := hm_13
            subst hm_13
            refine lv_if_eq (tgt := 70) hx hb dX8_usesObject_63 (by decide) (fun _ => ?_) (fun h => absurd rfl h)
            refine lv_iconst (v := 0) hx hb dX8_usesObject_70 (by decide) ?_
            exact m_zret (b := false) X hr hlk hw hS (Nat.le_of_ble_eq_true rfl) (Nat.le_of_ble_eq_true rfl) rfl ⟨(h_13, d_13), by show d_13 ≤ 8; omega, rfl, rfl, (by first | (refine (fun (e9 : o = 21) => ?_) (by assumption); subst e9; show mFo (p_21 21 v (h, d)) _ _; unfold p_21; rw [if_pos (show r_isIn v 0 7 = true from (show k_cof v = true by assumption)), b_s ho_10]; show mFo (p_push (h_10, d_10) (10 + v.toInt32)) _ _; rw [ho_13]; exact mFo.n) | (refine (fun (e9 : o = 22) => ?_) (by assumption); subst e9; show mFo (p_21 22 v (h, d)) _ _; unfold p_21; rw [if_pos (show r_isIn v 0 7 = true from (show k_cof v = true by assumption)), b_s ho_10]; show mFo (p_push (h_10, d_10) (1)) _ _; rw [ho_13]; exact mFo.n) | (refine (fun (e9 : o = 24) => ?_) (by assumption); subst e9; show mFo (p_24 (h, d)) _ _; unfold p_24; first | (rw [b_s ho_10, ho_13]; exact mFo.n) | (rw [b_s ho_10, b_n ho_13]; exact mFo.n)) | (refine (fun (e9 : o = 23) => ?_) (by assumption); subst e9; show mFo (p_23 (h, d)) _ _; unfold p_23; first | (rw [b_s ho_10, ho_13]; exact mFo.n) | (rw [b_s ho_10, b_n ho_13]; exact mFo.n)) | (rw [f_obj_d (by assumption)]; unfold p_23; first | (rw [b_s ho_10, ho_13]; exact mFo.n) | (rw [b_s ho_10, b_n ho_13]; exact mFo.n)))⟩ dX8_usesObject_71
          | some z_13 =>
            rw [ho_13] at hm_13
            have hm_13 : r_13 = 1 ∧ (h_13, d_13) = z_13 := hm_13
            obtain ⟨e3, e4⟩ := hm_13
            subst e3; subst e4
            refine lv_if_eq (tgt := 70) hx hb dX8_usesObject_63 (by decide) (fun h => absurd h (by decide)) (fun _ => ?_)
            refine lv_iconst (v := 1) hx hb dX8_usesObject_66 (by decide) ?_
            refine lv_goto (tgt := 71) hx hb dX8_usesObject_67 (by decide) ?_
            exact m_zret (b := true) X hr hlk hw hS (Nat.le_of_ble_eq_true rfl) (Nat.le_of_ble_eq_true rfl) rfl ⟨(h_13, d_13), by show d_13 ≤ 8; omega, rfl, rfl, (by first | (refine (fun (e9 : o = 21) => ?_) (by assumption); subst e9; show mFo (p_21 21 v (h, d)) _ _; unfold p_21; rw [if_pos (show r_isIn v 0 7 = true from (show k_cof v = true by assumption)), b_s ho_10]; show mFo (p_push (h_10, d_10) (10 + v.toInt32)) _ _; rw [ho_13]; exact mFo.s) | (refine (fun (e9 : o = 22) => ?_) (by assumption); subst e9; show mFo (p_21 22 v (h, d)) _ _; unfold p_21; rw [if_pos (show r_isIn v 0 7 = true from (show k_cof v = true by assumption)), b_s ho_10]; show mFo (p_push (h_10, d_10) (1)) _ _; rw [ho_13]; exact mFo.s) | (refine (fun (e9 : o = 24) => ?_) (by assumption); subst e9; show mFo (p_24 (h, d)) _ _; unfold p_24; first | (rw [b_s ho_10, ho_13]; exact mFo.s) | (rw [b_s ho_10, b_s ho_13]; exact mFo.s)) | (refine (fun (e9 : o = 23) => ?_) (by assumption); subst e9; show mFo (p_23 (h, d)) _ _; unfold p_23; first | (rw [b_s ho_10, ho_13]; exact mFo.s) | (rw [b_s ho_10, b_s ho_13]; exact mFo.s)) | (rw [f_obj_d (by assumption)]; unfold p_23; first | (rw [b_s ho_10, ho_13]; exact mFo.s) | (rw [b_s ho_10, b_s ho_13]; exact mFo.s)))⟩ dX8_usesObject_71
    · have c_1e : o = 22 := Int32.toInt_inj.mp c_1v
      refine lv_tableIn (off := 71) (tgt := 72) hx hb dX8_usesObject_1 (by omega) (by omega) (by rw [c_1v]; rfl) (by decide) ?_
      refine lv_lload_n hx hb dX8_usesObject_72 rfl (lv_at hl 2 rfl) ?_
      refine m_calli (m_runS (As := [.long v]) (rest := []) X (k_X3_isClassOrFace Γ l L (cM Γ L (sP x 0 8 (h, d))) v) s_X3_isClassOrFace ml_X8_139 hw hS rfl hl.1 ⟨Nat.le_of_ble_eq_true rfl, Nat.le_of_ble_eq_true rfl⟩ (Nat.le_of_ble_eq_true rfl) ⟨Nat.le_of_ble_eq_true rfl, Nat.le_of_ble_eq_true rfl⟩ dX8_usesObject_73) hS (fun r_16 L1 M1 H locs hp_16 hw hS => ?_)
      obtain ⟨rfl, e1, e2⟩ := hp_16
      rw [e1, e2] at hw; clear e1 e2
      refine lv_if_eq (tgt := 106) hx hb dX8_usesObject_76 (by decide) (fun c_17 => ?_) (fun c_17 => ?_)
      · skip
        have c_17 := bI_f c_17
        refine lv_iconst (v := 0) hx hb dX8_usesObject_106 (by decide) ?_
        exact m_zret (b := false) X hr hlk hw hS (Nat.le_of_ble_eq_true rfl) (Nat.le_of_ble_eq_true rfl) rfl ⟨(h, d), by show d ≤ 8; omega, rfl, rfl, (by first | (refine (fun (e9 : o = 21) => ?_) (by assumption); subst e9; show mFo (p_21 21 v (h, d)) _ _; unfold p_21; rw [if_neg (show ¬ r_isIn v 0 7 = true from (fun z9 => absurd (show k_cof v = true from z9) (by rw [show k_cof v = false by assumption]; decide)))]; exact mFo.n) | (refine (fun (e9 : o = 22) => ?_) (by assumption); subst e9; show mFo (p_21 22 v (h, d)) _ _; unfold p_21; rw [if_neg (show ¬ r_isIn v 0 7 = true from (fun z9 => absurd (show k_cof v = true from z9) (by rw [show k_cof v = false by assumption]; decide)))]; exact mFo.n))⟩ dX8_usesObject_107
      · skip
        have c_17 := bI_t c_17
        refine lv_aload_n hx hb dX8_usesObject_79 rfl (lv_at hl 0 rfl) ?_
        refine s_get (a := 0) (b := 7) (ci := 6) X hw rfl rfl gX8 0 (by decide) fl_X8_10 rfl rfl dX8_usesObject_80 ?_
        refine lv_bipush (v := 10) hx hb dX8_usesObject_83 (by decide) ?_
        refine m_calli (m_runV (i := nm 0 8) (ci := 4) (As := [.int 10]) (rest := []) X (k_F6_pop Γ l L x 0 8 h d 10 pO8 (by omega) ok (by decide) (by decide)) v_X6_pop ml_X8_115 hw hS (p_obj Γ L (c := sP x 0 8 (h, d)) pO8) rfl rfl rfl hl.1 ⟨Nat.le_of_ble_eq_true rfl, Nat.le_of_ble_eq_true rfl⟩ (Nat.le_of_ble_eq_true rfl) ⟨Nat.le_of_ble_eq_true rfl, Nat.le_of_ble_eq_true rfl⟩ dX8_usesObject_85) hS (fun r_18 L1 M1 H locs hp_18 hw hS => ?_)
        obtain ⟨⟨h_18, d_18⟩, hd_18, e1, e2, hm_18, hz_18⟩ := hp_18
        have hd_18 : d_18 ≤ 8 := hd_18
        rw [e1, e2] at hw; clear e1 e2
        have hm_18 : mFo (p_pop (h, d) 10) r_18 (h_18, d_18) := hm_18
        cases ho_18 : p_pop (h, d) 10 with
        | none =>
          rw [ho_18] at hm_18
          have hm_18 : r_18 = 0 := hm_18
          subst hm_18
          have hw : mW Γ.1 vwCl A L (cM Γ L (sP x 0 8 (h, d))) H := by rw [hz_18 ho_18] at hw; exact hw
          refine lv_if_eq (tgt := 106) hx hb dX8_usesObject_88 (by decide) (fun _ => ?_) (fun h => absurd rfl h)
          refine lv_iconst (v := 0) hx hb dX8_usesObject_106 (by decide) ?_
          exact m_zret (b := false) X hr hlk hw hS (Nat.le_of_ble_eq_true rfl) (Nat.le_of_ble_eq_true rfl) rfl ⟨(h, d), by show d ≤ 8; omega, rfl, rfl, (by first | (refine (fun (e9 : o = 21) => ?_) (by assumption); subst e9; show mFo (p_21 21 v (h, d)) _ _; unfold p_21; rw [if_pos (show r_isIn v 0 7 = true from (show k_cof v = true by assumption)), b_n ho_18]; exact mFo.n) | (refine (fun (e9 : o = 22) => ?_) (by assumption); subst e9; show mFo (p_21 22 v (h, d)) _ _; unfold p_21; rw [if_pos (show r_isIn v 0 7 = true from (show k_cof v = true by assumption)), b_n ho_18]; exact mFo.n) | (refine (fun (e9 : o = 24) => ?_) (by assumption); subst e9; show mFo (p_24 (h, d)) _ _; unfold p_24; first | (rw [ho_18]; exact mFo.n) | (rw [b_n ho_18]; exact mFo.n)) | (refine (fun (e9 : o = 23) => ?_) (by assumption); subst e9; show mFo (p_23 (h, d)) _ _; unfold p_23; first | (rw [ho_18]; exact mFo.n) | (rw [b_n ho_18]; exact mFo.n)) | (rw [f_obj_d (by assumption)]; unfold p_23; first | (rw [ho_18]; exact mFo.n) | (rw [b_n ho_18]; exact mFo.n)))⟩ dX8_usesObject_107
        | some z_18 =>
          rw [ho_18] at hm_18
          have hm_18 : r_18 = 1 ∧ (h_18, d_18) = z_18 := hm_18
          obtain ⟨e3, e4⟩ := hm_18
          subst e3; subst e4
          have ok_18 : okP (h_18, d_18) := ok_pop ok _ ho_18
          refine lv_if_eq (tgt := 106) hx hb dX8_usesObject_88 (by decide) (fun h => absurd h (by decide)) (fun _ => ?_)
          refine lv_aload_n hx hb dX8_usesObject_91 rfl (lv_at hl 0 rfl) ?_
          refine s_get (a := 0) (b := 7) (ci := 6) X hw rfl rfl gX8 0 (by decide) fl_X8_10 rfl rfl dX8_usesObject_92 ?_
          refine lv_iconst (v := 1) hx hb dX8_usesObject_95 (by decide) ?_
          refine m_calli (m_runV (i := nm 0 8) (ci := 4) (As := [.int 1]) (rest := []) X (k_F6_push Γ l L x 0 8 h_18 d_18 1 pO8 (by omega)) v_X6_push ml_X8_74 hw hS (p_obj Γ L (c := sP x 0 8 (h_18, d_18)) pO8) rfl rfl rfl hl.1 ⟨Nat.le_of_ble_eq_true rfl, Nat.le_of_ble_eq_true rfl⟩ (Nat.le_of_ble_eq_true rfl) ⟨Nat.le_of_ble_eq_true rfl, Nat.le_of_ble_eq_true rfl⟩ dX8_usesObject_96) hS (fun r_21 L1 M1 H locs hp_21 hw hS => ?_)
          obtain ⟨⟨h_21, d_21⟩, hd_21, e1, e2, hm_21⟩ := hp_21
          have hd_21 : d_21 ≤ 8 := hd_21
          rw [e1, e2] at hw; clear e1 e2
          have hm_21 : mFo (p_push (h_18, d_18) 1) r_21 (h_21, d_21) := hm_21
          cases ho_21 : p_push (h_18, d_18) 1 with
          | none =>
            rw [ho_21] at hm_21
            have hm_21 : r_21 = 0 := hm_21
            subst hm_21
            refine lv_if_eq (tgt := 106) hx hb dX8_usesObject_99 (by decide) (fun _ => ?_) (fun h => absurd rfl h)
            refine lv_iconst (v := 0) hx hb dX8_usesObject_106 (by decide) ?_
            exact m_zret (b := false) X hr hlk hw hS (Nat.le_of_ble_eq_true rfl) (Nat.le_of_ble_eq_true rfl) rfl ⟨(h_21, d_21), by show d_21 ≤ 8; omega, rfl, rfl, (by first | (refine (fun (e9 : o = 21) => ?_) (by assumption); subst e9; show mFo (p_21 21 v (h, d)) _ _; unfold p_21; rw [if_pos (show r_isIn v 0 7 = true from (show k_cof v = true by assumption)), b_s ho_18]; show mFo (p_push (h_18, d_18) (10 + v.toInt32)) _ _; rw [ho_21]; exact mFo.n) | (refine (fun (e9 : o = 22) => ?_) (by assumption); subst e9; show mFo (p_21 22 v (h, d)) _ _; unfold p_21; rw [if_pos (show r_isIn v 0 7 = true from (show k_cof v = true by assumption)), b_s ho_18]; show mFo (p_push (h_18, d_18) (1)) _ _; rw [ho_21]; exact mFo.n) | (refine (fun (e9 : o = 24) => ?_) (by assumption); subst e9; show mFo (p_24 (h, d)) _ _; unfold p_24; first | (rw [b_s ho_18, ho_21]; exact mFo.n) | (rw [b_s ho_18, b_n ho_21]; exact mFo.n)) | (refine (fun (e9 : o = 23) => ?_) (by assumption); subst e9; show mFo (p_23 (h, d)) _ _; unfold p_23; first | (rw [b_s ho_18, ho_21]; exact mFo.n) | (rw [b_s ho_18, b_n ho_21]; exact mFo.n)) | (rw [f_obj_d (by assumption)]; unfold p_23; first | (rw [b_s ho_18, ho_21]; exact mFo.n) | (rw [b_s ho_18, b_n ho_21]; exact mFo.n)))⟩ dX8_usesObject_107
          | some z_21 =>
            rw [ho_21] at hm_21
            have hm_21 : r_21 = 1 ∧ (h_21, d_21) = z_21 := hm_21
            obtain ⟨e3, e4⟩ := hm_21
            subst e3; subst e4
            refine lv_if_eq (tgt := 106) hx hb dX8_usesObject_99 (by decide) (fun h => absurd h (by decide)) (fun _ => ?_)
            refine lv_iconst (v := 1) hx hb dX8_usesObject_102 (by decide) ?_
            refine lv_goto (tgt := 107) hx hb dX8_usesObject_103 (by decide) ?_
            exact m_zret (b := true) X hr hlk hw hS (Nat.le_of_ble_eq_true rfl) (Nat.le_of_ble_eq_true rfl) rfl ⟨(h_21, d_21), by show d_21 ≤ 8; omega, rfl, rfl, (by first | (refine (fun (e9 : o = 21) => ?_) (by assumption); subst e9; show mFo (p_21 21 v (h, d)) _ _; unfold p_21; rw [if_pos (show r_isIn v 0 7 = true from (show k_cof v = true by assumption)), b_s ho_18]; show mFo (p_push (h_18, d_18) (10 + v.toInt32)) _ _; rw [ho_21]; exact mFo.s) | (refine (fun (e9 : o = 22) => ?_) (by assumption); subst e9; show mFo (p_21 22 v (h, d)) _ _; unfold p_21; rw [if_pos (show r_isIn v 0 7 = true from (show k_cof v = true by assumption)), b_s ho_18]; show mFo (p_push (h_18, d_18) (1)) _ _; rw [ho_21]; exact mFo.s) | (refine (fun (e9 : o = 24) => ?_) (by assumption); subst e9; show mFo (p_24 (h, d)) _ _; unfold p_24; first | (rw [b_s ho_18, ho_21]; exact mFo.s) | (rw [b_s ho_18, b_s ho_21]; exact mFo.s)) | (refine (fun (e9 : o = 23) => ?_) (by assumption); subst e9; show mFo (p_23 (h, d)) _ _; unfold p_23; first | (rw [b_s ho_18, ho_21]; exact mFo.s) | (rw [b_s ho_18, b_s ho_21]; exact mFo.s)) | (rw [f_obj_d (by assumption)]; unfold p_23; first | (rw [b_s ho_18, ho_21]; exact mFo.s) | (rw [b_s ho_18, b_s ho_21]; exact mFo.s)))⟩ dX8_usesObject_107
    · have c_1e : o = 23 := Int32.toInt_inj.mp c_1v
      refine lv_tableIn (off := 136) (tgt := 137) hx hb dX8_usesObject_1 (by omega) (by omega) (by rw [c_1v]; rfl) (by decide) ?_
      refine lv_aload_n hx hb dX8_usesObject_137 rfl (lv_at hl 0 rfl) ?_
      refine s_get (a := 0) (b := 7) (ci := 6) X hw rfl rfl gX8 0 (by decide) fl_X8_10 rfl rfl dX8_usesObject_138 ?_
      refine lv_bipush (v := 11) hx hb dX8_usesObject_141 (by decide) ?_
      refine m_calli (m_runV (i := nm 0 8) (ci := 4) (As := [.int 11]) (rest := []) X (k_F6_pop Γ l L x 0 8 h d 11 pO8 (by omega) ok (by decide) (by decide)) v_X6_pop ml_X8_115 hw hS (p_obj Γ L (c := sP x 0 8 (h, d)) pO8) rfl rfl rfl hl.1 ⟨Nat.le_of_ble_eq_true rfl, Nat.le_of_ble_eq_true rfl⟩ (Nat.le_of_ble_eq_true rfl) ⟨Nat.le_of_ble_eq_true rfl, Nat.le_of_ble_eq_true rfl⟩ dX8_usesObject_143) hS (fun r_24 L1 M1 H locs hp_24 hw hS => ?_)
      obtain ⟨⟨h_24, d_24⟩, hd_24, e1, e2, hm_24, hz_24⟩ := hp_24
      have hd_24 : d_24 ≤ 8 := hd_24
      rw [e1, e2] at hw; clear e1 e2
      have hm_24 : mFo (p_pop (h, d) 11) r_24 (h_24, d_24) := hm_24
      cases ho_24 : p_pop (h, d) 11 with
      | none =>
        rw [ho_24] at hm_24
        have hm_24 : r_24 = 0 := hm_24
        subst hm_24
        have hw : mW Γ.1 vwCl A L (cM Γ L (sP x 0 8 (h, d))) H := by rw [hz_24 ho_24] at hw; exact hw
        refine lv_if_eq (tgt := 164) hx hb dX8_usesObject_146 (by decide) (fun _ => ?_) (fun h => absurd rfl h)
        refine lv_iconst (v := 0) hx hb dX8_usesObject_164 (by decide) ?_
        exact m_zret (b := false) X hr hlk hw hS (Nat.le_of_ble_eq_true rfl) (Nat.le_of_ble_eq_true rfl) rfl ⟨(h, d), by show d ≤ 8; omega, rfl, rfl, (by first | (refine (fun (e9 : o = 21) => ?_) (by assumption); subst e9; show mFo (p_21 21 v (h, d)) _ _; unfold p_21; rw [if_pos (show r_isIn v 0 7 = true from (show k_cof v = true by assumption)), b_n ho_24]; exact mFo.n) | (refine (fun (e9 : o = 22) => ?_) (by assumption); subst e9; show mFo (p_21 22 v (h, d)) _ _; unfold p_21; rw [if_pos (show r_isIn v 0 7 = true from (show k_cof v = true by assumption)), b_n ho_24]; exact mFo.n) | (refine (fun (e9 : o = 24) => ?_) (by assumption); subst e9; show mFo (p_24 (h, d)) _ _; unfold p_24; first | (rw [ho_24]; exact mFo.n) | (rw [b_n ho_24]; exact mFo.n)) | (refine (fun (e9 : o = 23) => ?_) (by assumption); subst e9; show mFo (p_23 (h, d)) _ _; unfold p_23; first | (rw [ho_24]; exact mFo.n) | (rw [b_n ho_24]; exact mFo.n)) | (rw [f_obj_d (by assumption)]; unfold p_23; first | (rw [ho_24]; exact mFo.n) | (rw [b_n ho_24]; exact mFo.n)))⟩ dX8_usesObject_165
      | some z_24 =>
        rw [ho_24] at hm_24
        have hm_24 : r_24 = 1 ∧ (h_24, d_24) = z_24 := hm_24
        obtain ⟨e3, e4⟩ := hm_24
        subst e3; subst e4
        have ok_24 : okP (h_24, d_24) := ok_pop ok _ ho_24
        refine lv_if_eq (tgt := 164) hx hb dX8_usesObject_146 (by decide) (fun h => absurd h (by decide)) (fun _ => ?_)
        refine lv_aload_n hx hb dX8_usesObject_149 rfl (lv_at hl 0 rfl) ?_
        refine s_get (a := 0) (b := 7) (ci := 6) X hw rfl rfl gX8 0 (by decide) fl_X8_10 rfl rfl dX8_usesObject_150 ?_
        refine lv_iconst (v := 1) hx hb dX8_usesObject_153 (by decide) ?_
        refine m_calli (m_runV (i := nm 0 8) (ci := 4) (As := [.int 1]) (rest := []) X (k_F6_push Γ l L x 0 8 h_24 d_24 1 pO8 (by omega)) v_X6_push ml_X8_74 hw hS (p_obj Γ L (c := sP x 0 8 (h_24, d_24)) pO8) rfl rfl rfl hl.1 ⟨Nat.le_of_ble_eq_true rfl, Nat.le_of_ble_eq_true rfl⟩ (Nat.le_of_ble_eq_true rfl) ⟨Nat.le_of_ble_eq_true rfl, Nat.le_of_ble_eq_true rfl⟩ dX8_usesObject_154) hS (fun r_27 L1 M1 H locs hp_27 hw hS => ?_)
        obtain ⟨⟨h_27, d_27⟩, hd_27, e1, e2, hm_27⟩ := hp_27
        have hd_27 : d_27 ≤ 8 := hd_27
        rw [e1, e2] at hw; clear e1 e2
        have hm_27 : mFo (p_push (h_24, d_24) 1) r_27 (h_27, d_27) := hm_27
        cases ho_27 : p_push (h_24, d_24) 1 with
        | none =>
          rw [ho_27] at hm_27
          have hm_27 : r_27 = 0 := hm_27
          subst hm_27
          refine lv_if_eq (tgt := 164) hx hb dX8_usesObject_157 (by decide) (fun _ => ?_) (fun h => absurd rfl h)
          refine lv_iconst (v := 0) hx hb dX8_usesObject_164 (by decide) ?_
          exact m_zret (b := false) X hr hlk hw hS (Nat.le_of_ble_eq_true rfl) (Nat.le_of_ble_eq_true rfl) rfl ⟨(h_27, d_27), by show d_27 ≤ 8; omega, rfl, rfl, (by first | (refine (fun (e9 : o = 21) => ?_) (by assumption); subst e9; show mFo (p_21 21 v (h, d)) _ _; unfold p_21; rw [if_pos (show r_isIn v 0 7 = true from (show k_cof v = true by assumption)), b_s ho_24]; show mFo (p_push (h_24, d_24) (10 + v.toInt32)) _ _; rw [ho_27]; exact mFo.n) | (refine (fun (e9 : o = 22) => ?_) (by assumption); subst e9; show mFo (p_21 22 v (h, d)) _ _; unfold p_21; rw [if_pos (show r_isIn v 0 7 = true from (show k_cof v = true by assumption)), b_s ho_24]; show mFo (p_push (h_24, d_24) (1)) _ _; rw [ho_27]; exact mFo.n) | (refine (fun (e9 : o = 24) => ?_) (by assumption); subst e9; show mFo (p_24 (h, d)) _ _; unfold p_24; first | (rw [b_s ho_24, ho_27]; exact mFo.n) | (rw [b_s ho_24, b_n ho_27]; exact mFo.n)) | (refine (fun (e9 : o = 23) => ?_) (by assumption); subst e9; show mFo (p_23 (h, d)) _ _; unfold p_23; first | (rw [b_s ho_24, ho_27]; exact mFo.n) | (rw [b_s ho_24, b_n ho_27]; exact mFo.n)) | (rw [f_obj_d (by assumption)]; unfold p_23; first | (rw [b_s ho_24, ho_27]; exact mFo.n) | (rw [b_s ho_24, b_n ho_27]; exact mFo.n)))⟩ dX8_usesObject_165
        | some z_27 =>
          rw [ho_27] at hm_27
          have hm_27 : r_27 = 1 ∧ (h_27, d_27) = z_27 := hm_27
          obtain ⟨e3, e4⟩ := hm_27
          subst e3; subst e4
          refine lv_if_eq (tgt := 164) hx hb dX8_usesObject_157 (by decide) (fun h => absurd h (by decide)) (fun _ => ?_)
          refine lv_iconst (v := 1) hx hb dX8_usesObject_160 (by decide) ?_
          refine lv_goto (tgt := 165) hx hb dX8_usesObject_161 (by decide) ?_
          exact m_zret (b := true) X hr hlk hw hS (Nat.le_of_ble_eq_true rfl) (Nat.le_of_ble_eq_true rfl) rfl ⟨(h_27, d_27), by show d_27 ≤ 8; omega, rfl, rfl, (by first | (refine (fun (e9 : o = 21) => ?_) (by assumption); subst e9; show mFo (p_21 21 v (h, d)) _ _; unfold p_21; rw [if_pos (show r_isIn v 0 7 = true from (show k_cof v = true by assumption)), b_s ho_24]; show mFo (p_push (h_24, d_24) (10 + v.toInt32)) _ _; rw [ho_27]; exact mFo.s) | (refine (fun (e9 : o = 22) => ?_) (by assumption); subst e9; show mFo (p_21 22 v (h, d)) _ _; unfold p_21; rw [if_pos (show r_isIn v 0 7 = true from (show k_cof v = true by assumption)), b_s ho_24]; show mFo (p_push (h_24, d_24) (1)) _ _; rw [ho_27]; exact mFo.s) | (refine (fun (e9 : o = 24) => ?_) (by assumption); subst e9; show mFo (p_24 (h, d)) _ _; unfold p_24; first | (rw [b_s ho_24, ho_27]; exact mFo.s) | (rw [b_s ho_24, b_s ho_27]; exact mFo.s)) | (refine (fun (e9 : o = 23) => ?_) (by assumption); subst e9; show mFo (p_23 (h, d)) _ _; unfold p_23; first | (rw [b_s ho_24, ho_27]; exact mFo.s) | (rw [b_s ho_24, b_s ho_27]; exact mFo.s)) | (rw [f_obj_d (by assumption)]; unfold p_23; first | (rw [b_s ho_24, ho_27]; exact mFo.s) | (rw [b_s ho_24, b_s ho_27]; exact mFo.s)))⟩ dX8_usesObject_165
    · have c_1e : o = 24 := Int32.toInt_inj.mp c_1v
      refine lv_tableIn (off := 107) (tgt := 108) hx hb dX8_usesObject_1 (by omega) (by omega) (by rw [c_1v]; rfl) (by decide) ?_
      refine lv_aload_n hx hb dX8_usesObject_108 rfl (lv_at hl 0 rfl) ?_
      refine s_get (a := 0) (b := 7) (ci := 6) X hw rfl rfl gX8 0 (by decide) fl_X8_10 rfl rfl dX8_usesObject_109 ?_
      refine lv_iconst (v := 1) hx hb dX8_usesObject_112 (by decide) ?_
      refine m_calli (m_runV (i := nm 0 8) (ci := 4) (As := [.int 1]) (rest := []) X (k_F6_pop Γ l L x 0 8 h d 1 pO8 (by omega) ok (by decide) (by decide)) v_X6_pop ml_X8_115 hw hS (p_obj Γ L (c := sP x 0 8 (h, d)) pO8) rfl rfl rfl hl.1 ⟨Nat.le_of_ble_eq_true rfl, Nat.le_of_ble_eq_true rfl⟩ (Nat.le_of_ble_eq_true rfl) ⟨Nat.le_of_ble_eq_true rfl, Nat.le_of_ble_eq_true rfl⟩ dX8_usesObject_113) hS (fun r_30 L1 M1 H locs hp_30 hw hS => ?_)
      obtain ⟨⟨h_30, d_30⟩, hd_30, e1, e2, hm_30, hz_30⟩ := hp_30
      have hd_30 : d_30 ≤ 8 := hd_30
      rw [e1, e2] at hw; clear e1 e2
      have hm_30 : mFo (p_pop (h, d) 1) r_30 (h_30, d_30) := hm_30
      cases ho_30 : p_pop (h, d) 1 with
      | none =>
        rw [ho_30] at hm_30
        have hm_30 : r_30 = 0 := hm_30
        subst hm_30
        have hw : mW Γ.1 vwCl A L (cM Γ L (sP x 0 8 (h, d))) H := by rw [hz_30 ho_30] at hw; exact hw
        refine lv_if_eq (tgt := 135) hx hb dX8_usesObject_116 (by decide) (fun _ => ?_) (fun h => absurd rfl h)
        refine lv_iconst (v := 0) hx hb dX8_usesObject_135 (by decide) ?_
        exact m_zret (b := false) X hr hlk hw hS (Nat.le_of_ble_eq_true rfl) (Nat.le_of_ble_eq_true rfl) rfl ⟨(h, d), by show d ≤ 8; omega, rfl, rfl, (by first | (refine (fun (e9 : o = 21) => ?_) (by assumption); subst e9; show mFo (p_21 21 v (h, d)) _ _; unfold p_21; rw [if_pos (show r_isIn v 0 7 = true from (show k_cof v = true by assumption)), b_n ho_30]; exact mFo.n) | (refine (fun (e9 : o = 22) => ?_) (by assumption); subst e9; show mFo (p_21 22 v (h, d)) _ _; unfold p_21; rw [if_pos (show r_isIn v 0 7 = true from (show k_cof v = true by assumption)), b_n ho_30]; exact mFo.n) | (refine (fun (e9 : o = 24) => ?_) (by assumption); subst e9; show mFo (p_24 (h, d)) _ _; unfold p_24; first | (rw [ho_30]; exact mFo.n) | (rw [b_n ho_30]; exact mFo.n)) | (refine (fun (e9 : o = 23) => ?_) (by assumption); subst e9; show mFo (p_23 (h, d)) _ _; unfold p_23; first | (rw [ho_30]; exact mFo.n) | (rw [b_n ho_30]; exact mFo.n)) | (rw [f_obj_d (by assumption)]; unfold p_23; first | (rw [ho_30]; exact mFo.n) | (rw [b_n ho_30]; exact mFo.n)))⟩ dX8_usesObject_136
      | some z_30 =>
        rw [ho_30] at hm_30
        have hm_30 : r_30 = 1 ∧ (h_30, d_30) = z_30 := hm_30
        obtain ⟨e3, e4⟩ := hm_30
        subst e3; subst e4
        have ok_30 : okP (h_30, d_30) := ok_pop ok _ ho_30
        refine lv_if_eq (tgt := 135) hx hb dX8_usesObject_116 (by decide) (fun h => absurd h (by decide)) (fun _ => ?_)
        refine lv_aload_n hx hb dX8_usesObject_119 rfl (lv_at hl 0 rfl) ?_
        refine s_get (a := 0) (b := 7) (ci := 6) X hw rfl rfl gX8 0 (by decide) fl_X8_10 rfl rfl dX8_usesObject_120 ?_
        refine lv_bipush (v := 11) hx hb dX8_usesObject_123 (by decide) ?_
        refine m_calli (m_runV (i := nm 0 8) (ci := 4) (As := [.int 11]) (rest := []) X (k_F6_pop Γ l L x 0 8 h_30 d_30 11 pO8 (by omega) ok_30 (by decide) (by decide)) v_X6_pop ml_X8_115 hw hS (p_obj Γ L (c := sP x 0 8 (h_30, d_30)) pO8) rfl rfl rfl hl.1 ⟨Nat.le_of_ble_eq_true rfl, Nat.le_of_ble_eq_true rfl⟩ (Nat.le_of_ble_eq_true rfl) ⟨Nat.le_of_ble_eq_true rfl, Nat.le_of_ble_eq_true rfl⟩ dX8_usesObject_125) hS (fun r_33 L1 M1 H locs hp_33 hw hS => ?_)
        obtain ⟨⟨h_33, d_33⟩, hd_33, e1, e2, hm_33, hz_33⟩ := hp_33
        have hd_33 : d_33 ≤ 8 := hd_33
        rw [e1, e2] at hw; clear e1 e2
        have hm_33 : mFo (p_pop (h_30, d_30) 11) r_33 (h_33, d_33) := hm_33
        cases ho_33 : p_pop (h_30, d_30) 11 with
        | none =>
          rw [ho_33] at hm_33
          have hm_33 : r_33 = 0 := hm_33
          subst hm_33
          have hw : mW Γ.1 vwCl A L (cM Γ L (sP x 0 8 (h_30, d_30))) H := by rw [hz_33 ho_33] at hw; exact hw
          refine lv_if_eq (tgt := 135) hx hb dX8_usesObject_128 (by decide) (fun _ => ?_) (fun h => absurd rfl h)
          refine lv_iconst (v := 0) hx hb dX8_usesObject_135 (by decide) ?_
          exact m_zret (b := false) X hr hlk hw hS (Nat.le_of_ble_eq_true rfl) (Nat.le_of_ble_eq_true rfl) rfl ⟨(h_30, d_30), by show d_30 ≤ 8; omega, rfl, rfl, (by first | (refine (fun (e9 : o = 21) => ?_) (by assumption); subst e9; show mFo (p_21 21 v (h, d)) _ _; unfold p_21; rw [if_pos (show r_isIn v 0 7 = true from (show k_cof v = true by assumption)), b_s ho_30]; show mFo (p_push (h_30, d_30) (10 + v.toInt32)) _ _; rw [ho_33]; exact mFo.n) | (refine (fun (e9 : o = 22) => ?_) (by assumption); subst e9; show mFo (p_21 22 v (h, d)) _ _; unfold p_21; rw [if_pos (show r_isIn v 0 7 = true from (show k_cof v = true by assumption)), b_s ho_30]; show mFo (p_push (h_30, d_30) (1)) _ _; rw [ho_33]; exact mFo.n) | (refine (fun (e9 : o = 24) => ?_) (by assumption); subst e9; show mFo (p_24 (h, d)) _ _; unfold p_24; first | (rw [b_s ho_30, ho_33]; exact mFo.n) | (rw [b_s ho_30, b_n ho_33]; exact mFo.n)) | (refine (fun (e9 : o = 23) => ?_) (by assumption); subst e9; show mFo (p_23 (h, d)) _ _; unfold p_23; first | (rw [b_s ho_30, ho_33]; exact mFo.n) | (rw [b_s ho_30, b_n ho_33]; exact mFo.n)) | (rw [f_obj_d (by assumption)]; unfold p_23; first | (rw [b_s ho_30, ho_33]; exact mFo.n) | (rw [b_s ho_30, b_n ho_33]; exact mFo.n)))⟩ dX8_usesObject_136
        | some z_33 =>
          rw [ho_33] at hm_33
          have hm_33 : r_33 = 1 ∧ (h_33, d_33) = z_33 := hm_33
          obtain ⟨e3, e4⟩ := hm_33
          subst e3; subst e4
          have ok_33 : okP (h_33, d_33) := ok_pop ok_30 _ ho_33
          refine lv_if_eq (tgt := 135) hx hb dX8_usesObject_128 (by decide) (fun h => absurd h (by decide)) (fun _ => ?_)
          refine lv_iconst (v := 1) hx hb dX8_usesObject_131 (by decide) ?_
          refine lv_goto (tgt := 136) hx hb dX8_usesObject_132 (by decide) ?_
          exact m_zret (b := true) X hr hlk hw hS (Nat.le_of_ble_eq_true rfl) (Nat.le_of_ble_eq_true rfl) rfl ⟨(h_33, d_33), by show d_33 ≤ 8; omega, rfl, rfl, (by first | (refine (fun (e9 : o = 21) => ?_) (by assumption); subst e9; show mFo (p_21 21 v (h, d)) _ _; unfold p_21; rw [if_pos (show r_isIn v 0 7 = true from (show k_cof v = true by assumption)), b_s ho_30]; show mFo (p_push (h_30, d_30) (10 + v.toInt32)) _ _; rw [ho_33]; exact mFo.s) | (refine (fun (e9 : o = 22) => ?_) (by assumption); subst e9; show mFo (p_21 22 v (h, d)) _ _; unfold p_21; rw [if_pos (show r_isIn v 0 7 = true from (show k_cof v = true by assumption)), b_s ho_30]; show mFo (p_push (h_30, d_30) (1)) _ _; rw [ho_33]; exact mFo.s) | (refine (fun (e9 : o = 24) => ?_) (by assumption); subst e9; show mFo (p_24 (h, d)) _ _; unfold p_24; first | (rw [b_s ho_30, ho_33]; exact mFo.s) | (rw [b_s ho_30, b_s ho_33]; exact mFo.s)) | (refine (fun (e9 : o = 23) => ?_) (by assumption); subst e9; show mFo (p_23 (h, d)) _ _; unfold p_23; first | (rw [b_s ho_30, ho_33]; exact mFo.s) | (rw [b_s ho_30, b_s ho_33]; exact mFo.s)) | (rw [f_obj_d (by assumption)]; unfold p_23; first | (rw [b_s ho_30, ho_33]; exact mFo.s) | (rw [b_s ho_30, b_s ho_33]; exact mFo.s)))⟩ dX8_usesObject_136
set_option maxHeartbeats 4000000 in
set_option maxRecDepth 100000 in
theorem k_F8_turns (Γ : mG) (l : Launch) (L : mI → Nat) (x : CS) (h : Nat → Int32) (d : Nat) (o : Int32) (hd : d ≤ 8) (ok : okP (h, d)) : mMet Γ l yX8_turns cX8_turns 4 (some .boolean) { frames := 2, cells := 0, slots := 0, locals := 41 } [.ref (L (nm 0 7)), .int o] L (cM Γ L (sP x 0 8 (h, d))) (mQi Γ (mFz Γ L x 0 8 (f_tur o (h, d)))) := by
  refine m_start (by decide) (Nat.le_of_ble_eq_true rfl) ?_
  intro p e s m args below meth c A ls X hr hlk hnm hw hS hl
  have hx := X.1.1
  have hb := X.1.2.1
  have hl : lv_has ls 4 [(0, .ref (L (nm 0 7))), (1, .int o)] := hl
  refine lv_aload_n hx hb dX8_turns_0 rfl (lv_at hl 0 rfl) ?_
  refine s_get (a := 0) (b := 7) (ci := 6) X hw rfl rfl gX8 0 (by decide) fl_X8_10 rfl rfl dX8_turns_1 ?_
  refine m_calli (m_runV (i := nm 0 8) (ci := 4) (As := []) (rest := []) X (k_F6_popOne Γ l L x 0 8 h d  pO8 (by omega)) v_X6_popOne ml_X8_98 hw hS (p_obj Γ L (c := sP x 0 8 (h, d)) pO8) rfl rfl rfl hl.1 ⟨Nat.le_of_ble_eq_true rfl, Nat.le_of_ble_eq_true rfl⟩ (Nat.le_of_ble_eq_true rfl) ⟨Nat.le_of_ble_eq_true rfl, Nat.le_of_ble_eq_true rfl⟩ dX8_turns_4) hS (fun r_1 L1 M1 H locs hp_1 hw hS => ?_)
  obtain ⟨e1, er_1, e2⟩ := hp_1
  rw [e1, e2] at hw; clear e1 e2
  by_cases po_1 : p_one (h, d) 0 = true
  · rw [f_one_y po_1] at er_1 hw
    have er_1 : r_1 = h (7 + d) := er_1
    subst er_1
    have hpos_1 : 0 < d := f_one_y_p po_1
    have hw : mW Γ.1 vwCl A L (cM Γ L (sP x 0 8 (h, d - 1))) H := hw
    have ok_1 : okP (h, d - 1) := ok_dropn (q := (h, d)) (n := 1) ok
    refine lv_istore_n (lv' := [(2, .int (h (7 + d))), (0, .ref (L (nm 0 7))), (1, .int o)]) hx hb dX8_turns_7 rfl hl (by decide) rfl (fun ls hl => ?_)
    refine lv_iload_n hx hb dX8_turns_8 rfl (lv_at hl 0 rfl) ?_
    refine lv_if_eq (tgt := 18) hx hb dX8_turns_9 (by decide) (fun c_2 => ?_) (fun c_2 => ?_)
    · skip
      refine lv_iload_n hx hb dX8_turns_18 rfl (lv_at hl 0 rfl) ?_
      refine lv_if_eq (tgt := 26) hx hb dX8_turns_19 (by decide) (fun c_3 => ?_) (fun c_3 => ?_)
      · skip
        refine lv_iconst (v := 0) hx hb dX8_turns_26 (by decide) ?_
        exact m_zret (b := false) X hr hlk hw hS (Nat.le_of_ble_eq_true rfl) (Nat.le_of_ble_eq_true rfl) rfl ⟨(h, d - 1), by show d - 1 ≤ 8; omega, rfl, rfl, (by first | (exact absurd (by assumption) (one_n0 po_1)) | (refine (fun (e9 : o = 27) => ?_) (by assumption); subst e9; show mFo (p_27 (h, d)) _ _; unfold p_27; rw [if_pos po_1]; exact mFo.s))⟩ dX8_turns_27
      · skip
        refine lv_iconst (v := 1) hx hb dX8_turns_22 (by decide) ?_
        refine lv_goto (tgt := 27) hx hb dX8_turns_23 (by decide) ?_
        exact m_zret (b := true) X hr hlk hw hS (Nat.le_of_ble_eq_true rfl) (Nat.le_of_ble_eq_true rfl) rfl ⟨(h, d - 1), by show d - 1 ≤ 8; omega, rfl, rfl, (by first | (exact absurd (by assumption) (one_n0 po_1)) | (refine (fun (e9 : o = 27) => ?_) (by assumption); subst e9; show mFo (p_27 (h, d)) _ _; unfold p_27; rw [if_pos po_1]; exact mFo.s))⟩ dX8_turns_27
    · skip
      refine lv_iload_n hx hb dX8_turns_12 rfl (lv_at hl 2 rfl) ?_
      refine lv_bipush (v := 27) hx hb dX8_turns_13 (by decide) ?_
      refine lv_icmp_ne (tgt := 28) hx hb dX8_turns_15 (by decide) (fun c_4 => ?_) (fun c_4 => ?_)
      · skip
        refine lv_iload_n hx hb dX8_turns_28 rfl (lv_at hl 2 rfl) ?_
        refine lv_bipush (v := 26) hx hb dX8_turns_29 (by decide) ?_
        refine lv_icmp_ne (tgt := 62) hx hb dX8_turns_31 (by decide) (fun c_5 => ?_) (fun c_5 => ?_)
        · skip
          refine lv_aload_n hx hb dX8_turns_62 rfl (lv_at hl 1 rfl) ?_
          refine s_get (a := 0) (b := 7) (ci := 6) X hw rfl rfl gX8 0 (by decide) fl_X8_10 rfl rfl dX8_turns_63 ?_
          refine m_calli (m_runV (i := nm 0 8) (ci := 4) (As := []) (rest := []) X (k_F6_popOne Γ l L x 0 8 h (d - 1)  pO8 (by omega)) v_X6_popOne ml_X8_98 hw hS (p_obj Γ L (c := sP x 0 8 (h, d - 1)) pO8) rfl rfl rfl hl.1 ⟨Nat.le_of_ble_eq_true rfl, Nat.le_of_ble_eq_true rfl⟩ (Nat.le_of_ble_eq_true rfl) ⟨Nat.le_of_ble_eq_true rfl, Nat.le_of_ble_eq_true rfl⟩ dX8_turns_66) hS (fun r_6 L1 M1 H locs hp_6 hw hS => ?_)
          obtain ⟨e1, er_6, e2⟩ := hp_6
          rw [e1, e2] at hw; clear e1 e2
          by_cases po_6 : p_one (h, d - 1) 0 = true
          · rw [f_one_y po_6] at er_6 hw
            have er_6 : r_6 = h (7 + (d - 1)) := er_6
            subst er_6
            have hpos_6 : 0 < d - 1 := f_one_y_p po_6
            have hw : mW Γ.1 vwCl A L (cM Γ L (sP x 0 8 (h, d - 1 - 1))) H := hw
            have ok_6 : okP (h, (d - 1) - 1) := ok_dropn (q := (h, d - 1)) (n := 1) ok_1
            refine lv_istore_n (lv' := [(3, .int (h (7 + (d - 1)))), (2, .int (h (7 + d))), (0, .ref (L (nm 0 7))), (1, .int o)]) hx hb dX8_turns_69 rfl hl (by decide) rfl (fun ls hl => ?_)
            refine lv_iload_n hx hb dX8_turns_70 rfl (lv_at hl 0 rfl) ?_
            refine lv_if_eq (tgt := 100) hx hb dX8_turns_71 (by decide) (fun c_7 => ?_) (fun c_7 => ?_)
            · skip
              refine lv_iconst (v := 0) hx hb dX8_turns_100 (by decide) ?_
              exact m_zret (b := false) X hr hlk hw hS (Nat.le_of_ble_eq_true rfl) (Nat.le_of_ble_eq_true rfl) rfl ⟨(h, (d - 1) - 1), by show (d - 1) - 1 ≤ 8; omega, rfl, rfl, (by first | (exact absurd (by assumption) (one_n0 po_1)) | (exact absurd (by assumption) (one_n0 po_6)) | (refine (fun (e9 : o = 27) => ?_) (by assumption); subst e9; show mFo (p_27 (h, d)) _ _; unfold p_27; rw [if_pos po_1]; exact mFo.s))⟩ dX8_turns_101
            · skip
              refine lv_aload_n hx hb dX8_turns_74 rfl (lv_at hl 2 rfl) ?_
              refine s_get (a := 0) (b := 7) (ci := 6) X hw rfl rfl gX8 0 (by decide) fl_X8_10 rfl rfl dX8_turns_75 ?_
              refine lv_iload_n hx hb dX8_turns_78 rfl (lv_at hl 1 rfl) ?_
              refine m_calli (m_runV (i := nm 0 8) (ci := 4) (As := [.int (h (7 + d))]) (rest := []) X (k_F6_push Γ l L x 0 8 h ((d - 1) - 1) (h (7 + d)) pO8 (by omega)) v_X6_push ml_X8_74 hw hS (p_obj Γ L (c := sP x 0 8 (h, (d - 1) - 1)) pO8) rfl rfl rfl hl.1 ⟨Nat.le_of_ble_eq_true rfl, Nat.le_of_ble_eq_true rfl⟩ (Nat.le_of_ble_eq_true rfl) ⟨Nat.le_of_ble_eq_true rfl, Nat.le_of_ble_eq_true rfl⟩ dX8_turns_79) hS (fun r_8 L1 M1 H locs hp_8 hw hS => ?_)
              obtain ⟨⟨h_8, d_8⟩, hd_8, e1, e2, hm_8⟩ := hp_8
              have hd_8 : d_8 ≤ 8 := hd_8
              rw [e1, e2] at hw; clear e1 e2
              have hm_8 : mFo (p_push (h, (d - 1) - 1) (h (7 + d))) r_8 (h_8, d_8) := hm_8
              cases ho_8 : p_push (h, (d - 1) - 1) (h (7 + d)) with
              | none =>
                rw [ho_8] at hm_8
                have hm_8 : r_8 = 0 := hm_8
                subst hm_8
                refine lv_if_eq (tgt := 100) hx hb dX8_turns_82 (by decide) (fun _ => ?_) (fun h => absurd rfl h)
                refine lv_iconst (v := 0) hx hb dX8_turns_100 (by decide) ?_
                exact m_zret (b := false) X hr hlk hw hS (Nat.le_of_ble_eq_true rfl) (Nat.le_of_ble_eq_true rfl) rfl ⟨(h_8, d_8), by show d_8 ≤ 8; omega, rfl, rfl, (by first | (exact absurd (by assumption) (one_n0 po_1)) | (exact absurd (by assumption) (one_n0 po_6)) | (refine (fun (e9 : o = 27) => ?_) (by assumption); subst e9; show mFo (p_27 (h, d)) _ _; unfold p_27; rw [if_pos po_1]; exact mFo.s) | (rw [push_s (by omega)] at ho_8; cases ho_8))⟩ dX8_turns_101
              | some z_8 =>
                rw [ho_8] at hm_8
                have hm_8 : r_8 = 1 ∧ (h_8, d_8) = z_8 := hm_8
                obtain ⟨e3, e4⟩ := hm_8
                subst e3; subst e4
                refine lv_if_eq (tgt := 100) hx hb dX8_turns_82 (by decide) (fun h => absurd h (by decide)) (fun _ => ?_)
                refine lv_aload_n hx hb dX8_turns_85 rfl (lv_at hl 2 rfl) ?_
                refine s_get (a := 0) (b := 7) (ci := 6) X hw rfl rfl gX8 0 (by decide) fl_X8_10 rfl rfl dX8_turns_86 ?_
                refine lv_iload_n hx hb dX8_turns_89 rfl (lv_at hl 0 rfl) ?_
                refine m_calli (m_runV (i := nm 0 8) (ci := 4) (As := [.int (h (7 + (d - 1)))]) (rest := []) X (k_F6_push Γ l L x 0 8 h_8 d_8 (h (7 + (d - 1))) pO8 (by omega)) v_X6_push ml_X8_74 hw hS (p_obj Γ L (c := sP x 0 8 (h_8, d_8)) pO8) rfl rfl rfl hl.1 ⟨Nat.le_of_ble_eq_true rfl, Nat.le_of_ble_eq_true rfl⟩ (Nat.le_of_ble_eq_true rfl) ⟨Nat.le_of_ble_eq_true rfl, Nat.le_of_ble_eq_true rfl⟩ dX8_turns_90) hS (fun r_11 L1 M1 H locs hp_11 hw hS => ?_)
                obtain ⟨⟨h_11, d_11⟩, hd_11, e1, e2, hm_11⟩ := hp_11
                have hd_11 : d_11 ≤ 8 := hd_11
                rw [e1, e2] at hw; clear e1 e2
                have hm_11 : mFo (p_push (h_8, d_8) (h (7 + (d - 1)))) r_11 (h_11, d_11) := hm_11
                cases ho_11 : p_push (h_8, d_8) (h (7 + (d - 1))) with
                | none =>
                  rw [ho_11] at hm_11
                  have hm_11 : r_11 = 0 := hm_11
                  subst hm_11
                  refine lv_if_eq (tgt := 100) hx hb dX8_turns_93 (by decide) (fun _ => ?_) (fun h => absurd rfl h)
                  refine lv_iconst (v := 0) hx hb dX8_turns_100 (by decide) ?_
                  exact m_zret (b := false) X hr hlk hw hS (Nat.le_of_ble_eq_true rfl) (Nat.le_of_ble_eq_true rfl) rfl ⟨(h_11, d_11), by show d_11 ≤ 8; omega, rfl, rfl, (by first | (exact absurd (by assumption) (one_n0 po_1)) | (exact absurd (by assumption) (one_n0 po_6)) | (refine (fun (e9 : o = 27) => ?_) (by assumption); subst e9; show mFo (p_27 (h, d)) _ _; unfold p_27; rw [if_pos po_1]; exact mFo.s) | (rw [push_s (by omega)] at ho_8; cases ho_8; rw [push_s (by omega)] at ho_11; cases ho_11))⟩ dX8_turns_101
                | some z_11 =>
                  rw [ho_11] at hm_11
                  have hm_11 : r_11 = 1 ∧ (h_11, d_11) = z_11 := hm_11
                  obtain ⟨e3, e4⟩ := hm_11
                  subst e3; subst e4
                  refine lv_if_eq (tgt := 100) hx hb dX8_turns_93 (by decide) (fun h => absurd h (by decide)) (fun _ => ?_)
                  refine lv_iconst (v := 1) hx hb dX8_turns_96 (by decide) ?_
                  refine lv_goto (tgt := 101) hx hb dX8_turns_97 (by decide) ?_
                  exact m_zret (b := true) X hr hlk hw hS (Nat.le_of_ble_eq_true rfl) (Nat.le_of_ble_eq_true rfl) rfl ⟨(h_11, d_11), by show d_11 ≤ 8; omega, rfl, rfl, (by first | (exact absurd (by assumption) (one_n0 po_1)) | (exact absurd (by assumption) (one_n0 po_6)) | (refine (fun (e9 : o = 27) => ?_) (by assumption); subst e9; show mFo (p_27 (h, d)) _ _; unfold p_27; rw [if_pos po_1]; exact mFo.s) | (rw [push_s (by omega)] at ho_8; cases ho_8; rw [push_s (by omega)] at ho_11; cases ho_11; unfold f_tur; rw [if_neg (by assumption), if_neg (by assumption)]; unfold p_28; rw [if_pos ⟨po_1, by rw [← one_2 po_1]; exact po_6⟩]; show mFo (some (upd (upd h (7 + d) (h (6 + d))) (6 + d) (h (7 + d)), d)) _ _; rw [← swap_eq (by have := f_one_y_p po_6; omega)]; exact mFo.s))⟩ dX8_turns_101
          · rw [f_one_x po_6] at er_6 hw
            have er_6 : r_6 = 0 := er_6
            subst er_6
            have hw : mW Γ.1 vwCl A L (cM Γ L (sP x 0 8 (h, d - 1))) H := hw
            refine lv_istore_n (lv' := [(3, .int 0), (2, .int (h (7 + d))), (0, .ref (L (nm 0 7))), (1, .int o)]) hx hb dX8_turns_69 rfl hl (by decide) rfl (fun ls hl => ?_)
            refine lv_iload_n hx hb dX8_turns_70 rfl (lv_at hl 0 rfl) ?_
            refine lv_if_eq (tgt := 100) hx hb dX8_turns_71 (by decide) (fun _ => ?_) (fun h => absurd rfl h)
            refine lv_iconst (v := 0) hx hb dX8_turns_100 (by decide) ?_
            exact m_zret (b := false) X hr hlk hw hS (Nat.le_of_ble_eq_true rfl) (Nat.le_of_ble_eq_true rfl) rfl ⟨(h, d - 1), by show d - 1 ≤ 8; omega, rfl, rfl, (by first | (exact absurd (by assumption) (one_n0 po_1)) | (refine (fun (e9 : o = 27) => ?_) (by assumption); subst e9; show mFo (p_27 (h, d)) _ _; unfold p_27; rw [if_pos po_1]; exact mFo.s) | (unfold f_tur; rw [if_neg (by assumption), if_neg (by assumption)]; unfold p_28; rw [if_neg (fun z => po_6 (by rw [one_2 po_1]; exact z.2))]; exact mFo.n))⟩ dX8_turns_101
        · skip
          refine lv_aload_n hx hb dX8_turns_34 rfl (lv_at hl 1 rfl) ?_
          refine s_get (a := 0) (b := 7) (ci := 6) X hw rfl rfl gX8 0 (by decide) fl_X8_10 rfl rfl dX8_turns_35 ?_
          refine lv_iload_n hx hb dX8_turns_38 rfl (lv_at hl 0 rfl) ?_
          refine m_calli (m_runV (i := nm 0 8) (ci := 4) (As := [.int (h (7 + d))]) (rest := []) X (k_F6_push Γ l L x 0 8 h (d - 1) (h (7 + d)) pO8 (by omega)) v_X6_push ml_X8_74 hw hS (p_obj Γ L (c := sP x 0 8 (h, d - 1)) pO8) rfl rfl rfl hl.1 ⟨Nat.le_of_ble_eq_true rfl, Nat.le_of_ble_eq_true rfl⟩ (Nat.le_of_ble_eq_true rfl) ⟨Nat.le_of_ble_eq_true rfl, Nat.le_of_ble_eq_true rfl⟩ dX8_turns_39) hS (fun r_15 L1 M1 H locs hp_15 hw hS => ?_)
          obtain ⟨⟨h_15, d_15⟩, hd_15, e1, e2, hm_15⟩ := hp_15
          have hd_15 : d_15 ≤ 8 := hd_15
          rw [e1, e2] at hw; clear e1 e2
          have hm_15 : mFo (p_push (h, d - 1) (h (7 + d))) r_15 (h_15, d_15) := hm_15
          cases ho_15 : p_push (h, d - 1) (h (7 + d)) with
          | none =>
            rw [ho_15] at hm_15
            have hm_15 : r_15 = 0 := hm_15
            subst hm_15
            refine lv_if_eq (tgt := 60) hx hb dX8_turns_42 (by decide) (fun _ => ?_) (fun h => absurd rfl h)
            refine lv_iconst (v := 0) hx hb dX8_turns_60 (by decide) ?_
            exact m_zret (b := false) X hr hlk hw hS (Nat.le_of_ble_eq_true rfl) (Nat.le_of_ble_eq_true rfl) rfl ⟨(h_15, d_15), by show d_15 ≤ 8; omega, rfl, rfl, (by first | (exact absurd (by assumption) (one_n0 po_1)) | (refine (fun (e9 : o = 27) => ?_) (by assumption); subst e9; show mFo (p_27 (h, d)) _ _; unfold p_27; rw [if_pos po_1]; exact mFo.s) | (rw [push_s (by omega)] at ho_15; cases ho_15))⟩ dX8_turns_61
          | some z_15 =>
            rw [ho_15] at hm_15
            have hm_15 : r_15 = 1 ∧ (h_15, d_15) = z_15 := hm_15
            obtain ⟨e3, e4⟩ := hm_15
            subst e3; subst e4
            refine lv_if_eq (tgt := 60) hx hb dX8_turns_42 (by decide) (fun h => absurd h (by decide)) (fun _ => ?_)
            refine lv_aload_n hx hb dX8_turns_45 rfl (lv_at hl 1 rfl) ?_
            refine s_get (a := 0) (b := 7) (ci := 6) X hw rfl rfl gX8 0 (by decide) fl_X8_10 rfl rfl dX8_turns_46 ?_
            refine lv_iload_n hx hb dX8_turns_49 rfl (lv_at hl 0 rfl) ?_
            refine m_calli (m_runV (i := nm 0 8) (ci := 4) (As := [.int (h (7 + d))]) (rest := []) X (k_F6_push Γ l L x 0 8 h_15 d_15 (h (7 + d)) pO8 (by omega)) v_X6_push ml_X8_74 hw hS (p_obj Γ L (c := sP x 0 8 (h_15, d_15)) pO8) rfl rfl rfl hl.1 ⟨Nat.le_of_ble_eq_true rfl, Nat.le_of_ble_eq_true rfl⟩ (Nat.le_of_ble_eq_true rfl) ⟨Nat.le_of_ble_eq_true rfl, Nat.le_of_ble_eq_true rfl⟩ dX8_turns_50) hS (fun r_18 L1 M1 H locs hp_18 hw hS => ?_)
            obtain ⟨⟨h_18, d_18⟩, hd_18, e1, e2, hm_18⟩ := hp_18
            have hd_18 : d_18 ≤ 8 := hd_18
            rw [e1, e2] at hw; clear e1 e2
            have hm_18 : mFo (p_push (h_15, d_15) (h (7 + d))) r_18 (h_18, d_18) := hm_18
            cases ho_18 : p_push (h_15, d_15) (h (7 + d)) with
            | none =>
              rw [ho_18] at hm_18
              have hm_18 : r_18 = 0 := hm_18
              subst hm_18
              refine lv_if_eq (tgt := 60) hx hb dX8_turns_53 (by decide) (fun _ => ?_) (fun h => absurd rfl h)
              refine lv_iconst (v := 0) hx hb dX8_turns_60 (by decide) ?_
              exact m_zret (b := false) X hr hlk hw hS (Nat.le_of_ble_eq_true rfl) (Nat.le_of_ble_eq_true rfl) rfl ⟨(h_18, d_18), by show d_18 ≤ 8; omega, rfl, rfl, (by first | (exact absurd (by assumption) (one_n0 po_1)) | (refine (fun (e9 : o = 27) => ?_) (by assumption); subst e9; show mFo (p_27 (h, d)) _ _; unfold p_27; rw [if_pos po_1]; exact mFo.s) | (refine (fun (e9 : o = 26) => ?_) (by assumption); subst e9; show mFo (p_26 (h, d)) _ _; have e9 := dup_eq (by omega) hd ho_15; unfold p_26; rw [if_pos po_1]; show mFo (p_push (h, d) (h (7 + d))) _ _; rw [← e9, ho_18]; exact mFo.n))⟩ dX8_turns_61
            | some z_18 =>
              rw [ho_18] at hm_18
              have hm_18 : r_18 = 1 ∧ (h_18, d_18) = z_18 := hm_18
              obtain ⟨e3, e4⟩ := hm_18
              subst e3; subst e4
              refine lv_if_eq (tgt := 60) hx hb dX8_turns_53 (by decide) (fun h => absurd h (by decide)) (fun _ => ?_)
              refine lv_iconst (v := 1) hx hb dX8_turns_56 (by decide) ?_
              refine lv_goto (tgt := 61) hx hb dX8_turns_57 (by decide) ?_
              exact m_zret (b := true) X hr hlk hw hS (Nat.le_of_ble_eq_true rfl) (Nat.le_of_ble_eq_true rfl) rfl ⟨(h_18, d_18), by show d_18 ≤ 8; omega, rfl, rfl, (by first | (exact absurd (by assumption) (one_n0 po_1)) | (refine (fun (e9 : o = 27) => ?_) (by assumption); subst e9; show mFo (p_27 (h, d)) _ _; unfold p_27; rw [if_pos po_1]; exact mFo.s) | (refine (fun (e9 : o = 26) => ?_) (by assumption); subst e9; show mFo (p_26 (h, d)) _ _; have e9 := dup_eq (by omega) hd ho_15; unfold p_26; rw [if_pos po_1]; show mFo (p_push (h, d) (h (7 + d))) _ _; rw [← e9, ho_18]; exact mFo.s))⟩ dX8_turns_61
      · skip
        refine lv_iload_n hx hb dX8_turns_18 rfl (lv_at hl 0 rfl) ?_
        refine lv_if_eq (tgt := 26) hx hb dX8_turns_19 (by decide) (fun c_21 => ?_) (fun c_21 => ?_)
        · skip
          refine lv_iconst (v := 0) hx hb dX8_turns_26 (by decide) ?_
          exact m_zret (b := false) X hr hlk hw hS (Nat.le_of_ble_eq_true rfl) (Nat.le_of_ble_eq_true rfl) rfl ⟨(h, d - 1), by show d - 1 ≤ 8; omega, rfl, rfl, (by first | (exact absurd (by assumption) (one_n0 po_1)) | (refine (fun (e9 : o = 27) => ?_) (by assumption); subst e9; show mFo (p_27 (h, d)) _ _; unfold p_27; rw [if_pos po_1]; exact mFo.s))⟩ dX8_turns_27
        · skip
          refine lv_iconst (v := 1) hx hb dX8_turns_22 (by decide) ?_
          refine lv_goto (tgt := 27) hx hb dX8_turns_23 (by decide) ?_
          exact m_zret (b := true) X hr hlk hw hS (Nat.le_of_ble_eq_true rfl) (Nat.le_of_ble_eq_true rfl) rfl ⟨(h, d - 1), by show d - 1 ≤ 8; omega, rfl, rfl, (by first | (exact absurd (by assumption) (one_n0 po_1)) | (refine (fun (e9 : o = 27) => ?_) (by assumption); subst e9; show mFo (p_27 (h, d)) _ _; unfold p_27; rw [if_pos po_1]; exact mFo.s))⟩ dX8_turns_27
  · rw [f_one_x po_1] at er_1 hw
    have er_1 : r_1 = 0 := er_1
    subst er_1
    have hw : mW Γ.1 vwCl A L (cM Γ L (sP x 0 8 (h, d))) H := hw
    refine lv_istore_n (lv' := [(2, .int 0), (0, .ref (L (nm 0 7))), (1, .int o)]) hx hb dX8_turns_7 rfl hl (by decide) rfl (fun ls hl => ?_)
    refine lv_iload_n hx hb dX8_turns_8 rfl (lv_at hl 0 rfl) ?_
    refine lv_if_eq (tgt := 18) hx hb dX8_turns_9 (by decide) (fun _ => ?_) (fun h => absurd rfl h)
    refine lv_iload_n hx hb dX8_turns_18 rfl (lv_at hl 0 rfl) ?_
    refine lv_if_eq (tgt := 26) hx hb dX8_turns_19 (by decide) (fun _ => ?_) (fun h => absurd rfl h)
    refine lv_iconst (v := 0) hx hb dX8_turns_26 (by decide) ?_
    exact m_zret (b := false) X hr hlk hw hS (Nat.le_of_ble_eq_true rfl) (Nat.le_of_ble_eq_true rfl) rfl ⟨(h, d), by show d ≤ 8; omega, rfl, rfl, (by rw [tur_n po_1]; exact mFo.n)⟩ dX8_turns_27
