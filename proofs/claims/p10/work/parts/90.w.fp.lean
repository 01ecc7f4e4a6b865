/-! THE CLASS'S PLACES, exactly -/
def mFo (o : Option PL) (r : Int32) (q : PL) : Prop := match o with
  | some z => r = 1 ∧ q = z
  | none => r = 0
def mFz (Γ : mG) (L : mI → Nat) (x : CS) (a b : Nat) (o : Option PL) (r : Int32) (L1 : mI → Nat) (M1 : mM) : Prop := ∃ q : PL, q.2 ≤ 8 ∧ L1 = L ∧ M1 = cM Γ L (sP x a b q) ∧ mFo o r q
theorem mFo.s {q : PL} : mFo (some q) 1 q := ⟨rfl, rfl⟩
theorem mFo.n {q : PL} : mFo none 0 q := rfl
theorem b_s {q : PL} {f : PL → Option PL} {o : Option PL} (h : o = some q) : o.bind f = f q := by rw [h]; rfl
theorem b_n {f : PL → Option PL} {o : Option PL} (h : o = none) : o.bind f = none := by rw [h]; rfl
theorem fp_pop_t {h : Nat → Int32} {d : Nat} {k : Int32} (ok : okP (h, d)) (hk : r_isKind k = true) (h0 : k_goes 0 k = false) (c : k_goes (q_top h d) k = true) : p_pop (h, d) k = some (h, d - 1) := by
  have hpos := pop_pos h0 c
  have e : q_top h d = h (7 + d) := by unfold q_top; rw [if_pos hpos]
  rw [e, k_goes_eq (ok.1 (7 + d) (by show 7 + d < 8 + d; omega)) hk] at c
  unfold p_pop
  rw [if_neg (show ¬ d = 0 by omega), if_pos c]
theorem fp_pop_f {h : Nat → Int32} {d : Nat} {k : Int32} (ok : okP (h, d)) (hk : r_isKind k = true) (c : k_goes (q_top h d) k = false) : p_pop (h, d) k = none := by
  unfold p_pop
  by_cases z : d = 0
  · rw [if_pos z]
  · have e : q_top h d = h (7 + d) := by unfold q_top; rw [if_pos (by omega)]
    rw [e, k_goes_eq (ok.1 (7 + d) (by show 7 + d < 8 + d; omega)) hk] at c
    rw [if_neg z, if_neg (by show ¬ r_goes (h (7 + d)) k = true; rw [c]; decide)]
theorem fp_popL_t {h : Nat → Int32} {d i : Nat} (hd : 2 ≤ d) (hi : i = 6 + d) (c1 : h i = 2) (c2 : h (i + 1) = 3) : p_popL (h, d) = some (h, d - 2) := by
  subst hi
  have e : 6 + d + 1 = 7 + d := by omega
  rw [e] at c2
  exact if_pos ⟨hd, c2, c1⟩
theorem fp_popL_f1 {h : Nat → Int32} {d : Nat} (c : d < 2) : p_popL (h, d) = none := if_neg (fun z => by
  have : 2 ≤ d := z.1
  omega)
theorem fp_popL_f2 {h : Nat → Int32} {d i : Nat} (hi : i = 6 + d) (c : ¬ h i = 2) : p_popL (h, d) = none := if_neg (fun z => c (by rw [hi]; exact z.2.2))
theorem fp_popL_f3 {h : Nat → Int32} {d i : Nat} (hi : i = 6 + d) (c : ¬ h (i + 1) = 3) : p_popL (h, d) = none := if_neg (fun z => c (by rw [hi, show 6 + d + 1 = 7 + d by omega]; exact z.2.1))
theorem k_one_eq (k : Int32) : k_one k = r_one k := by
  unfold k_one r_one
  congr 1
  by_cases c : k < 4
  · rw [decide_eq_true c, decide_eq_false (Int32.not_le.mpr c)]; rfl
  · rw [decide_eq_false c, decide_eq_true (Int32.not_lt.mp c)]; rfl
/-- what pops ONE PLACE: its KIND and the rest -/
def f_one (q : PL) : Int32 × PL := if p_one q 0 = true then (q.1 (7 + q.2), (q.1, q.2 - 1)) else (0, q)
def f_row (q : PL) : Int32 × PL := if ¬ q.2 = 0 ∧ p_isRowN (q.1 (7 + q.2)) = true then (q.1 (7 + q.2), (q.1, q.2 - 1)) else (0, q)
theorem one_top {h : Nat → Int32} {d : Nat} : k_one (q_top h d) = p_one (h, d) 0 := by
  unfold p_one q_top
  by_cases c : 0 < d
  · rw [if_pos c, k_one_eq]
    show r_one (h (7 + d)) = (decide (0 < d) && r_one (h (7 + d - 0)))
    rw [decide_eq_true c]; rfl
  · rw [if_neg c]
    show k_one 0 = (decide (0 < d) && _)
    rw [decide_eq_false c]; rfl
theorem f_one_t {h : Nat → Int32} {d : Nat} (c : k_one (q_top h d) = true) : f_one (h, d) = (q_top h d, (h, d - 1)) := by
  have hpos := one_pos c
  rw [one_top] at c
  unfold f_one q_top
  rw [if_pos c, if_pos hpos]
theorem f_one_f {h : Nat → Int32} {d : Nat} (c : k_one (q_top h d) = false) : f_one (h, d) = (0, (h, d)) := by
  rw [one_top] at c
  unfold f_one
  rw [if_neg (by rw [c]; decide)]
theorem f_row_t {h : Nat → Int32} {d : Nat} (c : k_row (q_top h d) = true ∨ q_top h d = 4) : f_row (h, d) = f_one (h, d) := by
  have hpos : 0 < d := by
    by_cases z : 0 < d
    · exact z
    · have e : q_top h d = 0 := by unfold q_top; rw [if_neg z]
      rw [e] at c
      exact absurd c (by decide)
  have e : q_top h d = h (7 + d) := by unfold q_top; rw [if_pos hpos]
  rw [e] at c
  have c2 : p_isRowN (h (7 + d)) = true := by
    unfold p_isRowN
    rcases c with c | c
    · rw [← k_row_eq, c]; rfl
    · rw [c]; decide
  have c3 : r_one (h (7 + d)) = true := by
    rcases c with c | c
    · rw [k_row_eq] at c
      unfold r_isRow at c
      obtain ⟨t, h1, h2, -, et⟩ := isIn_nat (l := 21) (h := 25) (by decide) (by decide) c
      rw [et]
      rcases (show t = 21 ∨ t = 22 ∨ t = 23 ∨ t = 24 ∨ t = 25 by omega) with rfl | rfl | rfl | rfl | rfl <;> decide
    · rw [c]; decide
  unfold f_row f_one p_one
  rw [if_pos ⟨show ¬ d = 0 by omega, c2⟩]
  show _ = if (decide (0 < d) && r_one (h (7 + d - 0))) = true then _ else _
  rw [decide_eq_true hpos, if_pos (by show (true && r_one (h (7 + d))) = true; rw [c3]; rfl)]
theorem f_row_f {h : Nat → Int32} {d : Nat} (c1 : k_row (q_top h d) = false) (c2 : ¬ q_top h d = 4) : f_row (h, d) = (0, (h, d)) := by
  unfold f_row
  rw [if_neg]
  rintro ⟨z1, z2⟩
  have e : q_top h d = h (7 + d) := by unfold q_top; rw [if_pos (by show 0 < d; exact Nat.pos_of_ne_zero z1)]
  rw [e] at c1 c2
  unfold p_isRowN at z2
  have z2 : (r_isRow (h (7 + d)) || decide (h (7 + d) = 4)) = true := z2
  rw [← k_row_eq, c1, decide_eq_false c2] at z2
  cases z2
/-! writing a LOCAL -/
theorem w1_0 {h : Nat → Int32} {l : Nat} (c : ¬ 0 < l) : p_local1 h l = h := if_neg (fun z => c z.2.1)
theorem w1_s {h : Nat → Int32} {l : Nat} (P : Pd h) (c : 0 < l) (hl : l < 8) (e : h l = 3) : p_local1 h l = upd h (l - 1) 0 := by
  have e1 : l - 1 + 1 = l := by omega
  refine if_pos ⟨e, c, (P.1 (l - 1) (by omega)).mpr ?_⟩
  rw [e1]; exact e
theorem w1_c {h : Nat → Int32} {l : Nat} (P : Pd h) (c : 0 < l) (hl : l < 8) (e : ¬ h l = 3) : ¬ h (l - 1) = 2 := by
  have e1 : l - 1 + 1 = l := by omega
  intro z
  have := (P.1 (l - 1) (by omega)).mp z
  rw [e1] at this
  exact e this
theorem w1_n {h : Nat → Int32} {l : Nat} (e : ¬ h l = 3) : p_local1 h l = h := if_neg (fun z => e z.1)
theorem w1_at {h : Nat → Int32} {l j : Nat} (hj : l ≤ j) : p_local1 h l j = h j := by
  unfold p_local1
  by_cases c : h l = 3 ∧ 0 < l ∧ h (l - 1) = 2
  · rw [if_pos c, upd_oth (by omega)]
  · rw [if_neg c]
theorem w2_e {h : Nat → Int32} {l : Nat} {w : Int32} (c : ¬ l + 1 < 8) : upd (p_local1 h l) l w = p_local h l w := by
  unfold p_local p_local2
  rw [if_neg (fun z => by omega)]
theorem w2_t {h : Nat → Int32} {l : Nat} {w : Int32} (P : Pd h) (c : l + 1 < 8) (e : h l = 2) : upd (upd (p_local1 h l) (l + 1) 0) l w = p_local h l w := by
  unfold p_local p_local2
  rw [if_pos ⟨by rw [w1_at (Nat.le_refl _)]; exact e, by omega, by rw [w1_at (by omega)]; exact (P.1 l (by omega)).mp e⟩]
theorem w2_c {h : Nat → Int32} {l : Nat} (P : Pd h) (c : l + 1 < 8) (e : ¬ h l = 2) : ¬ p_local1 h l (l + 1) = 3 := by
  rw [w1_at (by omega)]
  exact fun z => e ((P.1 l (by omega)).mpr z)
theorem w2_n {h : Nat → Int32} {l : Nat} {w : Int32} (e : ¬ h l = 2) : upd (p_local1 h l) l w = p_local h l w := by
  unfold p_local p_local2
  rw [if_neg (fun z => e (by have := z.1; rw [w1_at (Nat.le_refl _)] at this; exact this))]
theorem has_nI {d n : Nat} (hd : d ≤ 8) (hn : n ≤ 16) : p_has (nI d) (nI n) = decide (n < 8 + d) := by
  have e0 : (0 : Int32).toInt = 0 := by decide
  have e8 : (8 : Int32) + nI d = nI (8 + d) := nadd (a := 8) rfl rfl
  unfold p_has
  rw [e8]
  have h1 : ¬ nI d < 0 := by rw [Int32.lt_iff_toInt_lt, nI_toInt (by omega), e0]; omega
  have h2 : ¬ nI n < 0 := by rw [Int32.lt_iff_toInt_lt, nI_toInt (by omega), e0]; omega
  rw [decide_eq_false h1, decide_eq_false h2]
  by_cases c : n < 8 + d
  · rw [decide_eq_true c, decide_eq_true (by rw [Int32.lt_iff_toInt_lt, nI_toInt (by omega), nI_toInt (by omega)]; omega)]; rfl
  · rw [decide_eq_false c, decide_eq_false (by rw [Int32.lt_iff_toInt_lt, nI_toInt (by omega), nI_toInt (by omega)]; omega)]; rfl
theorem holds_no {h : Nat → Int32} {k : Int32} : ∀ n, (∀ j, j < n → ¬ h (8 + j) = k) → p_holds h k n = false
  | 0, _ => rfl
  | n + 1, e => by
    show (p_holds h k n || decide (h (8 + n) = k)) = false
    rw [holds_no n (fun j hj => e j (by omega)), decide_eq_false (e n (by omega))]; rfl
theorem holds_yes {h : Nat → Int32} {k : Int32} {j : Nat} (e : h (8 + j) = k) : ∀ n, j < n → p_holds h k n = true
  | 0, z => by omega
  | n + 1, z => by
    show (p_holds h k n || decide (h (8 + n) = k)) = true
    by_cases w : j = n
    · subst w; rw [decide_eq_true e, Bool.or_true]
    · rw [holds_yes e n (by omega)]; rfl
theorem repl_hit {h : Nat → Int32} {v w : Int32} {t : Nat} (c : p_repl h v w t t = v) : upd (p_repl h v w t) t w = p_repl h v w (t + 1) := p_repl_hit (by rw [← p_repl_at h v w t]; exact c)
theorem repl_miss {h : Nat → Int32} {v w : Int32} {t : Nat} (c : ¬ p_repl h v w t t = v) : p_repl h v w t = p_repl h v w (t + 1) := by
  rw [p_repl_at] at c
  rw [← p_repl_miss c, upd_id]
theorem repl_all {h : Nat → Int32} {v w : Int32} {t n : Nat} (a : t ≤ n) (b : n ≤ t) : p_repl h v w t = p_repl h v w n := by
  have : t = n := by omega
  rw [this]
/-! what joins -/
def jnF (h g : Nat → Int32) (t : Nat) : Nat → Int32 := fun j => if j < t then k_join (h j) (g j) else h j
def jnC (h g : Nat → Int32) : Nat → Bool
  | 0 => false
  | n + 1 => jnC h g n || !decide (k_join (h n) (g n) = h n)
theorem jnF_0 (h g : Nat → Int32) : jnF h g 0 = h := by funext j; simp [jnF]
theorem jnF_at (h g : Nat → Int32) (t : Nat) : jnF h g t t = h t := by simp [jnF]
theorem jnF_s (h g : Nat → Int32) (t : Nat) : upd (jnF h g t) t (k_join (h t) (g t)) = jnF h g (t + 1) := by
  funext j
  by_cases w : j = t
  · subst w; rw [upd_same]; simp [jnF]
  · rw [upd_oth w]
    unfold jnF
    by_cases z : j < t
    · rw [if_pos z, if_pos (by omega)]
    · rw [if_neg z, if_neg (by omega)]
theorem f_one_y {q : PL} (c : p_one q 0 = true) : f_one q = (q.1 (7 + q.2), (q.1, q.2 - 1)) := if_pos c
theorem f_one_x {q : PL} (c : ¬ p_one q 0 = true) : f_one q = (0, q) := if_neg c
theorem f_row_y {q : PL} (c : ¬ q.2 = 0 ∧ p_isRowN (q.1 (7 + q.2)) = true) : f_row q = (q.1 (7 + q.2), (q.1, q.2 - 1)) := if_pos c
theorem f_row_x {q : PL} (c : ¬ (¬ q.2 = 0 ∧ p_isRowN (q.1 (7 + q.2)) = true)) : f_row q = (0, q) := if_neg c
theorem f_one_y_p {h : Nat → Int32} {d : Nat} (c : p_one (h, d) 0 = true) : 0 < d := by
  unfold p_one at c
  simp only [Bool.and_eq_true, decide_eq_true_eq] at c
  exact c.1
theorem f_row_y_p {h : Nat → Int32} {d : Nat} (c : ¬ d = 0 ∧ p_isRowN (h (7 + d)) = true) : 0 < d := Nat.pos_of_ne_zero c.1
set_option maxHeartbeats 4000000 in
set_option maxRecDepth 100000 in
theorem k_F6_push (Γ : mG) (l : Launch) (L : mI → Nat) (x : CS) (a b : Nat) (h : Nat → Int32) (d : Nat) (k : Int32) (hp : pOK x a b) (hd : d ≤ 8) : mMet Γ l yX6_push cX6_push 2 (some .boolean) { frames := 0, cells := 0, slots := 0, locals := 0 } [.ref (L (nm a b)), .int k] L (cM Γ L (sP x a b (h, d))) (mQi Γ (mFz Γ L x a b (p_push (h, d) k))) := by
  refine m_start (by decide) (Nat.le_of_ble_eq_true rfl) ?_
  intro p e s m args below meth c A ls X hr hlk hnm hw hS hl
  have hx := X.1.1
  have hb := X.1.2.1
  have hl : lv_has ls 2 [(0, .ref (L (nm a b))), (1, .int k)] := hl
  refine lv_aload_n hx hb dX6_push_0 rfl (lv_at hl 0 rfl) ?_
  refine p_getd X hw hp fl_X6_13 rfl dX6_push_1 ?_
  refine lv_if_lt (tgt := 16) hx hb dX6_push_4 (by decide) (fun c_1 => ?_) (fun c_1 => ?_)
  · skip
    have c_1n : d < 0 := nltT (a := d) (b := 0) rfl rfl (by omega) (by omega) c_1
    have c_1m : ¬ 0 ≤ d := by omega
    refine lv_iconst (v := 0) hx hb dX6_push_16 (by decide) ?_
    exact m_zret (b := false) X hr hlk hw hS (Nat.le_of_ble_eq_true rfl) (Nat.le_of_ble_eq_true rfl) rfl ⟨(h, d), by show d ≤ 8; omega, rfl, rfl, (by rw [show p_push (h, d) k = none from if_pos (by show d = 8; omega)]; exact mFo.n)⟩ dX6_push_17
  · skip
    have c_1n : ¬ d < 0 := nltF (a := d) (b := 0) rfl rfl (by omega) (by omega) c_1
    have c_1m : 0 ≤ d := by omega
    refine lv_aload_n hx hb dX6_push_7 rfl (lv_at hl 0 rfl) ?_
    refine p_getd X hw hp fl_X6_13 rfl dX6_push_8 ?_
    refine lv_bipush (v := 8) hx hb dX6_push_11 (by decide) ?_
    refine lv_icmp_lt (tgt := 18) hx hb dX6_push_13 (by decide) (fun c_2 => ?_) (fun c_2 => ?_)
    · skip
      have c_2n : d < 8 := nltT (a := d) (b := 8) rfl rfl (by omega) (by omega) c_2
      have c_2m : ¬ 8 ≤ d := by omega
      refine lv_aload_n hx hb dX6_push_18 rfl (lv_at hl 0 rfl) ?_
      refine p_getk X hw hp fl_X6_9 rfl dX6_push_19 ?_
      refine lv_bipush (v := 8) hx hb dX6_push_22 (by decide) ?_
      refine lv_aload_n hx hb dX6_push_24 rfl (lv_at hl 0 rfl) ?_
      refine p_getd X hw hp fl_X6_13 rfl dX6_push_25 ?_
      refine lv_iadd hx hb dX6_push_28 ?_
      refine lv_iload_n hx hb dX6_push_29 rfl (lv_at hl 1 rfl) ?_
      refine p_ast (n := 8 + d) (v := k) X hw hp hS (nadd (a := 8) (b := d) rfl rfl) (by omega) dX6_push_30 (fun H locs hw hS => ?_)
      refine lv_aload_n hx hb dX6_push_31 rfl (lv_at hl 0 rfl) ?_
      refine lv_dup hx hb dX6_push_32 rfl ?_
      refine p_getd X hw hp fl_X6_13 rfl dX6_push_33 ?_
      refine lv_iconst (v := 1) hx hb dX6_push_36 (by decide) ?_
      refine lv_iadd hx hb dX6_push_37 ?_
      refine p_putd X hw hp hS (nadd (a := d) (b := 1) rfl rfl) fl_X6_13 rfl dX6_push_38 (fun H locs hw hS => ?_)
      refine lv_iconst (v := 1) hx hb dX6_push_41 (by decide) ?_
      exact m_zret (b := true) X hr hlk hw hS (Nat.le_of_ble_eq_true rfl) (Nat.le_of_ble_eq_true rfl) rfl ⟨(upd h (8 + d) k, d + 1), by show d + 1 ≤ 8; omega, rfl, rfl, (by rw [show p_push (h, d) k = some (upd h (8 + d) k, d + 1) from if_neg (by show ¬ d = 8; omega)]; exact mFo.s)⟩ dX6_push_42
    · skip
      have c_2n : ¬ d < 8 := nltF (a := d) (b := 8) rfl rfl (by omega) (by omega) c_2
      have c_2m : 8 ≤ d := by omega
      refine lv_iconst (v := 0) hx hb dX6_push_16 (by decide) ?_
      exact m_zret (b := false) X hr hlk hw hS (Nat.le_of_ble_eq_true rfl) (Nat.le_of_ble_eq_true rfl) rfl ⟨(h, d), by show d ≤ 8; omega, rfl, rfl, (by rw [show p_push (h, d) k = none from if_pos (by show d = 8; omega)]; exact mFo.n)⟩ dX6_push_17
set_option maxHeartbeats 4000000 in
set_option maxRecDepth 100000 in
theorem k_F6_pushLong (Γ : mG) (l : Launch) (L : mI → Nat) (x : CS) (a b : Nat) (h : Nat → Int32) (d : Nat)  (hp : pOK x a b) (hd : d ≤ 8) : mMet Γ l yX6_pushLong cX6_pushLong 1 (some .boolean) { frames := 1, cells := 0, slots := 0, locals := 21 } [.ref (L (nm a b))] L (cM Γ L (sP x a b (h, d))) (mQi Γ (mFz Γ L x a b (p_pushL (h, d)))) := by
  refine m_start (by decide) (Nat.le_of_ble_eq_true rfl) ?_
  intro p e s m args below meth c A ls X hr hlk hnm hw hS hl
  have hx := X.1.1
  have hb := X.1.2.1
  have hl : lv_has ls 1 [(0, .ref (L (nm a b)))] := hl
  refine lv_aload_n hx hb dX6_pushLong_0 rfl (lv_at hl 0 rfl) ?_
  refine lv_iconst (v := 2) hx hb dX6_pushLong_1 (by decide) ?_
  refine m_calli (m_runV (i := nm a b) (ci := 4) (As := [.int 2]) (rest := []) X (k_F6_push Γ l L x a b h d 2 hp (by omega)) v_X6_push ml_X6_37 hw hS (p_obj Γ L (c := sP x a b (h, d)) hp) rfl rfl rfl hl.1 ⟨Nat.le_of_ble_eq_true rfl, Nat.le_of_ble_eq_true rfl⟩ (Nat.le_of_ble_eq_true rfl) ⟨Nat.le_of_ble_eq_true rfl, Nat.le_of_ble_eq_true rfl⟩ dX6_pushLong_2) hS (fun r_1 L1 M1 H locs hp_1 hw hS => ?_)
  obtain ⟨⟨h_1, d_1⟩, hd_1, e1, e2, hm_1⟩ := hp_1
  have hd_1 : d_1 ≤ 8 := hd_1
  rw [e1, e2] at hw; clear e1 e2
  have hm_1 : mFo (p_push (h, d) 2) r_1 (h_1, d_1) := hm_1
  cases ho_1 : p_push (h, d) 2 with
  | none =>
    rw [ho_1] at hm_1
    have hm_1 : r_1 = 0 := hm_1
    subst hm_1
    refine lv_if_eq (tgt := 20) hx hb dX6_pushLong_5 (by decide) (fun _ => ?_) (fun h => absurd rfl h)
    refine lv_iconst (v := 0) hx hb dX6_pushLong_20 (by decide) ?_
    exact m_zret (b := false) X hr hlk hw hS (Nat.le_of_ble_eq_true rfl) (Nat.le_of_ble_eq_true rfl) rfl ⟨(h_1, d_1), by show d_1 ≤ 8; omega, rfl, rfl, (by unfold p_pushL; first | (rw [ho_1]; exact mFo.n) | (rw [b_n ho_1]; exact mFo.n))⟩ dX6_pushLong_21
  | some z_1 =>
    rw [ho_1] at hm_1
    have hm_1 : r_1 = 1 ∧ (h_1, d_1) = z_1 := hm_1
    obtain ⟨e3, e4⟩ := hm_1
    subst e3; subst e4
    refine lv_if_eq (tgt := 20) hx hb dX6_pushLong_5 (by decide) (fun h => absurd h (by decide)) (fun _ => ?_)
    refine lv_aload_n hx hb dX6_pushLong_8 rfl (lv_at hl 0 rfl) ?_
    refine lv_iconst (v := 3) hx hb dX6_pushLong_9 (by decide) ?_
    refine m_calli (m_runV (i := nm a b) (ci := 4) (As := [.int 3]) (rest := []) X (k_F6_push Γ l L x a b h_1 d_1 3 hp (by omega)) v_X6_push ml_X6_37 hw hS (p_obj Γ L (c := sP x a b (h_1, d_1)) hp) rfl rfl rfl hl.1 ⟨Nat.le_of_ble_eq_true rfl, Nat.le_of_ble_eq_true rfl⟩ (Nat.le_of_ble_eq_true rfl) ⟨Nat.le_of_ble_eq_true rfl, Nat.le_of_ble_eq_true rfl⟩ dX6_pushLong_10) hS (fun r_4 L1 M1 H locs hp_4 hw hS => ?_)
    obtain ⟨⟨h_4, d_4⟩, hd_4, e1, e2, hm_4⟩ := hp_4
    have hd_4 : d_4 ≤ 8 := hd_4
    rw [e1, e2] at hw; clear e1 e2
    have hm_4 : mFo (p_push (h_1, d_1) 3) r_4 (h_4, d_4) := hm_4
    cases ho_4 : p_push (h_1, d_1) 3 with
    | none =>
      rw [ho_4] at hm_4
      have hm_4 : r_4 = 0 := hm_4
      subst hm_4
      refine lv_if_eq (tgt := 20) hx hb dX6_pushLong_13 (by decide) (fun _ => ?_) (fun h => absurd rfl h)
      refine lv_iconst (v := 0) hx hb dX6_pushLong_20 (by decide) ?_
      exact m_zret (b := false) X hr hlk hw hS (Nat.le_of_ble_eq_true rfl) (Nat.le_of_ble_eq_true rfl) rfl ⟨(h_4, d_4), by show d_4 ≤ 8; omega, rfl, rfl, (by unfold p_pushL; first | (rw [b_s ho_1, ho_4]; exact mFo.n) | (rw [b_s ho_1, b_n ho_4]; exact mFo.n))⟩ dX6_pushLong_21
    | some z_4 =>
      rw [ho_4] at hm_4
      have hm_4 : r_4 = 1 ∧ (h_4, d_4) = z_4 := hm_4
      obtain ⟨e3, e4⟩ := hm_4
      subst e3; subst e4
      refine lv_if_eq (tgt := 20) hx hb dX6_pushLong_13 (by decide) (fun h => absurd h (by decide)) (fun _ => ?_)
      refine lv_iconst (v := 1) hx hb dX6_pushLong_16 (by decide) ?_
      refine lv_goto (tgt := 21) hx hb dX6_pushLong_17 (by decide) ?_
      exact m_zret (b := true) X hr hlk hw hS (Nat.le_of_ble_eq_true rfl) (Nat.le_of_ble_eq_true rfl) rfl ⟨(h_4, d_4), by show d_4 ≤ 8; omega, rfl, rfl, (by unfold p_pushL; first | (rw [b_s ho_1, ho_4]; exact mFo.s) | (rw [b_s ho_1, b_s ho_4]; exact mFo.s))⟩ dX6_pushLong_21
set_option maxHeartbeats 4000000 in
set_option maxRecDepth 100000 in
theorem k_F6_pop (Γ : mG) (l : Launch) (L : mI → Nat) (x : CS) (a b : Nat) (h : Nat → Int32) (d : Nat) (k : Int32) (hp : pOK x a b) (hd : d ≤ 8) (ok : okP (h, d)) (hk : r_isKind k = true) (h0 : k_goes 0 k = false) : mMet Γ l yX6_pop cX6_pop 2 (some .boolean) { frames := 2, cells := 0, slots := 0, locals := 42 } [.ref (L (nm a b)), .int k] L (cM Γ L (sP x a b (h, d))) (mQi Γ (fun r L1 M1 => ∃ q : PL, q.2 ≤ 8 ∧ L1 = L ∧ M1 = cM Γ L (sP x a b q) ∧ mFo (p_pop (h, d) k) r q ∧ (p_pop (h, d) k = none → q = (h, d)))) := by
  refine m_start (by decide) (Nat.le_of_ble_eq_true rfl) ?_
  intro p e s m args below meth c A ls X hr hlk hnm hw hS hl
  have hx := X.1.1
  have hb := X.1.2.1
  have hl : lv_has ls 2 [(0, .ref (L (nm a b))), (1, .int k)] := hl
  refine lv_aload_n hx hb dX6_pop_0 rfl (lv_at hl 0 rfl) ?_
  refine m_calli (m_runV (i := nm a b) (ci := 4) (As := []) (rest := []) X (k_X6_top Γ l L x a b h d  hp (by omega)) v_X6_top ml_X6_48 hw hS (p_obj Γ L (c := sP x a b (h, d)) hp) rfl rfl rfl hl.1 ⟨Nat.le_of_ble_eq_true rfl, Nat.le_of_ble_eq_true rfl⟩ (Nat.le_of_ble_eq_true rfl) ⟨Nat.le_of_ble_eq_true rfl, Nat.le_of_ble_eq_true rfl⟩ dX6_pop_1) hS (fun r_1 L1 M1 H locs hp_1 hw hS => ?_)
  obtain ⟨rfl, e1, e2⟩ := hp_1
  rw [e1, e2] at hw; clear e1 e2
  refine lv_iload_n hx hb dX6_pop_4 rfl (lv_at hl 1 rfl) ?_
  refine m_calli (m_runS (As := [.int (q_top h d), .int k]) (rest := []) X (k_X3_goesTo Γ l L (cM Γ L (sP x a b (h, d))) (q_top h d) k) s_X3_goesTo ml_X6_40 hw hS rfl hl.1 ⟨Nat.le_of_ble_eq_true rfl, Nat.le_of_ble_eq_true rfl⟩ (Nat.le_of_ble_eq_true rfl) ⟨Nat.le_of_ble_eq_true rfl, Nat.le_of_ble_eq_true rfl⟩ dX6_pop_5) hS (fun r_2 L1 M1 H locs hp_2 hw hS => ?_)
  obtain ⟨rfl, e1, e2⟩ := hp_2
  rw [e1, e2] at hw; clear e1 e2
  refine lv_if_ne (tgt := 13) hx hb dX6_pop_8 (by decide) (fun c_3 => ?_) (fun c_3 => ?_)
  · skip
    have c_3 := bI_t c_3
    have hpos : 0 < d := pop_pos h0 c_3
    refine lv_aload_n hx hb dX6_pop_13 rfl (lv_at hl 0 rfl) ?_
    refine lv_dup hx hb dX6_pop_14 rfl ?_
    refine p_getd X hw hp fl_X6_13 rfl dX6_pop_15 ?_
    refine lv_iconst (v := 1) hx hb dX6_pop_18 (by decide) ?_
    refine lv_isub hx hb dX6_pop_19 ?_
    refine p_putd X hw hp hS (nsub (a := d) (b := 1) (by omega) rfl rfl) fl_X6_13 rfl dX6_pop_20 (fun H locs hw hS => ?_)
    refine lv_iconst (v := 1) hx hb dX6_pop_23 (by decide) ?_
    exact m_zret (b := true) X hr hlk hw hS (Nat.le_of_ble_eq_true rfl) (Nat.le_of_ble_eq_true rfl) rfl ⟨(h, d - 1), by show d - 1 ≤ 8; omega, rfl, rfl, by rw [fp_pop_t ok hk h0 (by assumption)]; exact mFo.s, fun z => by rw [fp_pop_t ok hk h0 (by assumption)] at z; cases z⟩ dX6_pop_24
  · skip
    have c_3 := bI_f c_3
    refine lv_iconst (v := 0) hx hb dX6_pop_11 (by decide) ?_
    exact m_zret (b := false) X hr hlk hw hS (Nat.le_of_ble_eq_true rfl) (Nat.le_of_ble_eq_true rfl) rfl ⟨(h, d), by show d ≤ 8; omega, rfl, rfl, by rw [fp_pop_f ok hk (by assumption)]; exact mFo.n, fun _ => rfl⟩ dX6_pop_12
set_option maxHeartbeats 4000000 in
set_option maxRecDepth 100000 in
theorem k_F6_popLong (Γ : mG) (l : Launch) (L : mI → Nat) (x : CS) (a b : Nat) (h : Nat → Int32) (d : Nat)  (hp : pOK x a b) (hd : d ≤ 8) : mMet Γ l yX6_popLong cX6_popLong 2 (some .boolean) { frames := 0, cells := 0, slots := 0, locals := 0 } [.ref (L (nm a b))] L (cM Γ L (sP x a b (h, d))) (mQi Γ (mFz Γ L x a b (p_popL (h, d)))) := by
  refine m_start (by decide) (Nat.le_of_ble_eq_true rfl) ?_
  intro p e s m args below meth c A ls X hr hlk hnm hw hS hl
  have hx := X.1.1
  have hb := X.1.2.1
  have hl : lv_has ls 2 [(0, .ref (L (nm a b)))] := hl
  refine lv_aload_n hx hb dX6_popLong_0 rfl (lv_at hl 0 rfl) ?_
  refine p_getd X hw hp fl_X6_13 rfl dX6_popLong_1 ?_
  refine lv_iconst (v := 2) hx hb dX6_popLong_4 (by decide) ?_
  refine lv_icmp_lt (tgt := 17) hx hb dX6_popLong_5 (by decide) (fun c_1 => ?_) (fun c_1 => ?_)
  · skip
    have c_1n : d < 2 := nltT (a := d) (b := 2) rfl rfl (by omega) (by omega) c_1
    have c_1m : ¬ 2 ≤ d := by omega
    refine lv_iconst (v := 0) hx hb dX6_popLong_17 (by decide) ?_
    exact m_zret (b := false) X hr hlk hw hS (Nat.le_of_ble_eq_true rfl) (Nat.le_of_ble_eq_true rfl) rfl ⟨(h, d), by show d ≤ 8; omega, rfl, rfl, (by first | (rw [fp_popL_f1 (h := h) (d := d) (by omega)]; exact mFo.n) | (rw [fp_popL_f2 (h := h) (d := d) (i := (8 + d) - 2) (by omega) (by assumption)]; exact mFo.n) | (rw [fp_popL_f3 (h := h) (d := d) (i := (8 + d) - 2) (by omega) (by assumption)]; exact mFo.n))⟩ dX6_popLong_18
  · skip
    have c_1n : ¬ d < 2 := nltF (a := d) (b := 2) rfl rfl (by omega) (by omega) c_1
    have c_1m : 2 ≤ d := by omega
    refine lv_aload_n hx hb dX6_popLong_8 rfl (lv_at hl 0 rfl) ?_
    refine p_getd X hw hp fl_X6_13 rfl dX6_popLong_9 ?_
    refine lv_bipush (v := 8) hx hb dX6_popLong_12 (by decide) ?_
    refine lv_icmp_le (tgt := 19) hx hb dX6_popLong_14 (by decide) (fun c_2 => ?_) (fun c_2 => ?_)
    · skip
      have c_2n : d ≤ 8 := nleT (a := d) (b := 8) rfl rfl (by omega) (by omega) c_2
      have c_2m : ¬ 8 < d := by omega
      refine lv_bipush (v := 8) hx hb dX6_popLong_19 (by decide) ?_
      refine lv_aload_n hx hb dX6_popLong_21 rfl (lv_at hl 0 rfl) ?_
      refine p_getd X hw hp fl_X6_13 rfl dX6_popLong_22 ?_
      refine lv_iadd hx hb dX6_popLong_25 ?_
      refine lv_iconst (v := 2) hx hb dX6_popLong_26 (by decide) ?_
      refine lv_isub hx hb dX6_popLong_27 ?_
      refine lv_istore_n (lv' := [(1, .int ((8 + (nI d)) - 2)), (0, .ref (L (nm a b)))]) hx hb dX6_popLong_28 rfl hl (by decide) rfl (fun ls hl => ?_)
      refine lv_aload_n hx hb dX6_popLong_29 rfl (lv_at hl 1 rfl) ?_
      refine lv_dup hx hb dX6_popLong_30 rfl ?_
      refine p_getd X hw hp fl_X6_13 rfl dX6_popLong_31 ?_
      refine lv_iconst (v := 2) hx hb dX6_popLong_34 (by decide) ?_
      refine lv_isub hx hb dX6_popLong_35 ?_
      refine p_putd X hw hp hS (nsub (a := d) (b := 2) (by omega) rfl rfl) fl_X6_13 rfl dX6_popLong_36 (fun H locs hw hS => ?_)
      refine lv_aload_n hx hb dX6_popLong_39 rfl (lv_at hl 1 rfl) ?_
      refine p_getk X hw hp fl_X6_9 rfl dX6_popLong_40 ?_
      refine lv_iload_n hx hb dX6_popLong_43 rfl (lv_at hl 0 rfl) ?_
      refine p_ald (n := (8 + d) - 2) X hw hp (nsub (a := 8 + d) (b := 2) (by omega) (nadd (a := 8) (b := d) rfl rfl) rfl) (by omega) dX6_popLong_44 ?_
      refine lv_iconst (v := 2) hx hb dX6_popLong_45 (by decide) ?_
      refine lv_icmp_ne (tgt := 65) hx hb dX6_popLong_46 (by decide) (fun c_3 => ?_) (fun c_3 => ?_)
      · skip
        refine lv_iconst (v := 0) hx hb dX6_popLong_65 (by decide) ?_
        exact m_zret (b := false) X hr hlk hw hS (Nat.le_of_ble_eq_true rfl) (Nat.le_of_ble_eq_true rfl) rfl ⟨(h, d - 2), by show d - 2 ≤ 8; omega, rfl, rfl, (by first | (rw [fp_popL_f1 (h := h) (d := d) (by omega)]; exact mFo.n) | (rw [fp_popL_f2 (h := h) (d := d) (i := (8 + d) - 2) (by omega) (by assumption)]; exact mFo.n) | (rw [fp_popL_f3 (h := h) (d := d) (i := (8 + d) - 2) (by omega) (by assumption)]; exact mFo.n))⟩ dX6_popLong_66
      · skip
        refine lv_aload_n hx hb dX6_popLong_49 rfl (lv_at hl 1 rfl) ?_
        refine p_getk X hw hp fl_X6_9 rfl dX6_popLong_50 ?_
        refine lv_iload_n hx hb dX6_popLong_53 rfl (lv_at hl 0 rfl) ?_
        refine lv_iconst (v := 1) hx hb dX6_popLong_54 (by decide) ?_
        refine lv_iadd hx hb dX6_popLong_55 ?_
        refine p_ald (n := ((8 + d) - 2) + 1) X hw hp (nadd (a := (8 + d) - 2) (b := 1) (nsub (a := 8 + d) (b := 2) (by omega) (nadd (a := 8) (b := d) rfl rfl) rfl) rfl) (by omega) dX6_popLong_56 ?_
        refine lv_iconst (v := 3) hx hb dX6_popLong_57 (by decide) ?_
        refine lv_icmp_ne (tgt := 65) hx hb dX6_popLong_58 (by decide) (fun c_4 => ?_) (fun c_4 => ?_)
        · skip
          refine lv_iconst (v := 0) hx hb dX6_popLong_65 (by decide) ?_
          exact m_zret (b := false) X hr hlk hw hS (Nat.le_of_ble_eq_true rfl) (Nat.le_of_ble_eq_true rfl) rfl ⟨(h, d - 2), by show d - 2 ≤ 8; omega, rfl, rfl, (by first | (rw [fp_popL_f1 (h := h) (d := d) (by omega)]; exact mFo.n) | (rw [fp_popL_f2 (h := h) (d := d) (i := (8 + d) - 2) (by omega) (by assumption)]; exact mFo.n) | (rw [fp_popL_f3 (h := h) (d := d) (i := (8 + d) - 2) (by omega) (by assumption)]; exact mFo.n))⟩ dX6_popLong_66
        · skip
          refine lv_iconst (v := 1) hx hb dX6_popLong_61 (by decide) ?_
          refine lv_goto (tgt := 66) hx hb dX6_popLong_62 (by decide) ?_
          exact m_zret (b := true) X hr hlk hw hS (Nat.le_of_ble_eq_true rfl) (Nat.le_of_ble_eq_true rfl) rfl ⟨(h, d - 2), by show d - 2 ≤ 8; omega, rfl, rfl, (by rw [fp_popL_t (d := d) (i := (8 + d) - 2) (by omega) (by omega) (by assumption) (by assumption)]; exact mFo.s)⟩ dX6_popLong_66
    · skip
      have c_2n : ¬ d ≤ 8 := nleF (a := d) (b := 8) rfl rfl (by omega) (by omega) c_2
      have c_2m : 8 < d := by omega
      refine lv_iconst (v := 0) hx hb dX6_popLong_17 (by decide) ?_
      exact m_zret (b := false) X hr hlk hw hS (Nat.le_of_ble_eq_true rfl) (Nat.le_of_ble_eq_true rfl) rfl ⟨(h, d), by show d ≤ 8; omega, rfl, rfl, (by first | (rw [fp_popL_f1 (h := h) (d := d) (by omega)]; exact mFo.n) | (rw [fp_popL_f2 (h := h) (d := d) (i := (8 + d) - 2) (by omega) (by assumption)]; exact mFo.n) | (rw [fp_popL_f3 (h := h) (d := d) (i := (8 + d) - 2) (by omega) (by assumption)]; exact mFo.n))⟩ dX6_popLong_18
set_option maxHeartbeats 4000000 in
set_option maxRecDepth 100000 in
theorem k_F6_popOne (Γ : mG) (l : Launch) (L : mI → Nat) (x : CS) (a b : Nat) (h : Nat → Int32) (d : Nat)  (hp : pOK x a b) (hd : d ≤ 8) : mMet Γ l yX6_popOne cX6_popOne 2 (some .int) { frames := 1, cells := 0, slots := 0, locals := 20 } [.ref (L (nm a b))] L (cM Γ L (sP x a b (h, d))) (mQi Γ (fun r L1 M1 => L1 = L ∧ r = (f_one (h, d)).1 ∧ M1 = cM Γ L (sP x a b (f_one (h, d)).2))) := by
  refine m_start (by decide) (Nat.le_of_ble_eq_true rfl) ?_
  intro p e s m args below meth c A ls X hr hlk hnm hw hS hl
  have hx := X.1.1
  have hb := X.1.2.1
  have hl : lv_has ls 2 [(0, .ref (L (nm a b)))] := hl
  refine lv_aload_n hx hb dX6_popOne_0 rfl (lv_at hl 0 rfl) ?_
  refine m_calli (m_runV (i := nm a b) (ci := 4) (As := []) (rest := []) X (k_X6_top Γ l L x a b h d  hp (by omega)) v_X6_top ml_X6_48 hw hS (p_obj Γ L (c := sP x a b (h, d)) hp) rfl rfl rfl hl.1 ⟨Nat.le_of_ble_eq_true rfl, Nat.le_of_ble_eq_true rfl⟩ (Nat.le_of_ble_eq_true rfl) ⟨Nat.le_of_ble_eq_true rfl, Nat.le_of_ble_eq_true rfl⟩ dX6_popOne_1) hS (fun r_1 L1 M1 H locs hp_1 hw hS => ?_)
  obtain ⟨rfl, e1, e2⟩ := hp_1
  rw [e1, e2] at hw; clear e1 e2
  refine lv_istore_n (lv' := [(1, .int (q_top h d)), (0, .ref (L (nm a b)))]) hx hb dX6_popOne_4 rfl hl (by decide) rfl (fun ls hl => ?_)
  refine lv_iload_n hx hb dX6_popOne_5 rfl (lv_at hl 0 rfl) ?_
  refine m_calli (m_runS (As := [.int (q_top h d)]) (rest := []) X (k_X3_isOnePlace Γ l L (cM Γ L (sP x a b (h, d))) (q_top h d)) s_X3_isOnePlace ml_X6_52 hw hS rfl hl.1 ⟨Nat.le_of_ble_eq_true rfl, Nat.le_of_ble_eq_true rfl⟩ (Nat.le_of_ble_eq_true rfl) ⟨Nat.le_of_ble_eq_true rfl, Nat.le_of_ble_eq_true rfl⟩ dX6_popOne_6) hS (fun r_2 L1 M1 H locs hp_2 hw hS => ?_)
  obtain ⟨rfl, e1, e2⟩ := hp_2
  rw [e1, e2] at hw; clear e1 e2
  refine lv_if_ne (tgt := 14) hx hb dX6_popOne_9 (by decide) (fun c_3 => ?_) (fun c_3 => ?_)
  · skip
    have c_3 := bI_t c_3
    have hpos : 0 < d := one_pos c_3
    refine lv_aload_n hx hb dX6_popOne_14 rfl (lv_at hl 1 rfl) ?_
    refine lv_dup hx hb dX6_popOne_15 rfl ?_
    refine p_getd X hw hp fl_X6_13 rfl dX6_popOne_16 ?_
    refine lv_iconst (v := 1) hx hb dX6_popOne_19 (by decide) ?_
    refine lv_isub hx hb dX6_popOne_20 ?_
    refine p_putd X hw hp hS (nsub (a := d) (b := 1) (by omega) rfl rfl) fl_X6_13 rfl dX6_popOne_21 (fun H locs hw hS => ?_)
    refine lv_iload_n hx hb dX6_popOne_24 rfl (lv_at hl 0 rfl) ?_
    exact m_iret X hr hlk hw hS (Nat.le_of_ble_eq_true rfl) (Nat.le_of_ble_eq_true rfl) ⟨rfl, by rw [f_one_t (by assumption)], by rw [f_one_t (by assumption)]⟩ dX6_popOne_25
  · skip
    have c_3 := bI_f c_3
    refine lv_iconst (v := 0) hx hb dX6_popOne_12 (by decide) ?_
    exact m_iret X hr hlk hw hS (Nat.le_of_ble_eq_true rfl) (Nat.le_of_ble_eq_true rfl) ⟨rfl, by rw [f_one_f (by assumption)], by rw [f_one_f (by assumption)]⟩ dX6_popOne_13
set_option maxHeartbeats 4000000 in
set_option maxRecDepth 100000 in
theorem k_F6_popRow (Γ : mG) (l : Launch) (L : mI → Nat) (x : CS) (a b : Nat) (h : Nat → Int32) (d : Nat)  (hp : pOK x a b) (hd : d ≤ 8) : mMet Γ l yX6_popRow cX6_popRow 2 (some .int) { frames := 2, cells := 0, slots := 0, locals := 41 } [.ref (L (nm a b))] L (cM Γ L (sP x a b (h, d))) (mQi Γ (fun r L1 M1 => L1 = L ∧ r = (f_row (h, d)).1 ∧ M1 = cM Γ L (sP x a b (f_row (h, d)).2))) := by
  refine m_start (by decide) (Nat.le_of_ble_eq_true rfl) ?_
  intro p e s m args below meth c A ls X hr hlk hnm hw hS hl
  have hx := X.1.1
  have hb := X.1.2.1
  have hl : lv_has ls 2 [(0, .ref (L (nm a b)))] := hl
  refine lv_aload_n hx hb dX6_popRow_0 rfl (lv_at hl 0 rfl) ?_
  refine m_calli (m_runV (i := nm a b) (ci := 4) (As := []) (rest := []) X (k_X6_top Γ l L x a b h d  hp (by omega)) v_X6_top ml_X6_48 hw hS (p_obj Γ L (c := sP x a b (h, d)) hp) rfl rfl rfl hl.1 ⟨Nat.le_of_ble_eq_true rfl, Nat.le_of_ble_eq_true rfl⟩ (Nat.le_of_ble_eq_true rfl) ⟨Nat.le_of_ble_eq_true rfl, Nat.le_of_ble_eq_true rfl⟩ dX6_popRow_1) hS (fun r_1 L1 M1 H locs hp_1 hw hS => ?_)
  obtain ⟨rfl, e1, e2⟩ := hp_1
  rw [e1, e2] at hw; clear e1 e2
  refine lv_istore_n (lv' := [(1, .int (q_top h d)), (0, .ref (L (nm a b)))]) hx hb dX6_popRow_4 rfl hl (by decide) rfl (fun ls hl => ?_)
  refine lv_iload_n hx hb dX6_popRow_5 rfl (lv_at hl 0 rfl) ?_
  refine m_calli (m_runS (As := [.int (q_top h d)]) (rest := []) X (k_X3_isRow Γ l L (cM Γ L (sP x a b (h, d))) (q_top h d)) s_X3_isRow ml_X6_55 hw hS rfl hl.1 ⟨Nat.le_of_ble_eq_true rfl, Nat.le_of_ble_eq_true rfl⟩ (Nat.le_of_ble_eq_true rfl) ⟨Nat.le_of_ble_eq_true rfl, Nat.le_of_ble_eq_true rfl⟩ dX6_popRow_6) hS (fun r_2 L1 M1 H locs hp_2 hw hS => ?_)
  obtain ⟨rfl, e1, e2⟩ := hp_2
  rw [e1, e2] at hw; clear e1 e2
  refine lv_if_ne (tgt := 17) hx hb dX6_popRow_9 (by decide) (fun c_3 => ?_) (fun c_3 => ?_)
  · skip
    have c_3 := bI_t c_3
    refine lv_aload_n hx hb dX6_popRow_17 rfl (lv_at hl 1 rfl) ?_
    refine m_calli (m_runV (i := nm a b) (ci := 4) (As := []) (rest := []) X (k_F6_popOne Γ l L x a b h d  hp (by omega)) v_X6_popOne ml_X6_58 hw hS (p_obj Γ L (c := sP x a b (h, d)) hp) rfl rfl rfl hl.1 ⟨Nat.le_of_ble_eq_true rfl, Nat.le_of_ble_eq_true rfl⟩ (Nat.le_of_ble_eq_true rfl) ⟨Nat.le_of_ble_eq_true rfl, Nat.le_of_ble_eq_true rfl⟩ dX6_popRow_18) hS (fun r_4 L1 M1 H locs hp_4 hw hS => ?_)
    obtain ⟨e1, er_4, e2⟩ := hp_4
    rw [e1, e2] at hw; clear e1 e2
    refine lv_goto (tgt := 25) hx hb dX6_popRow_21 (by decide) ?_
    exact m_iret X hr hlk hw hS (Nat.le_of_ble_eq_true rfl) (Nat.le_of_ble_eq_true rfl) ⟨rfl, by rw [f_row_t (by first | exact Or.inl (by assumption) | exact Or.inr (by assumption))]; exact er_4, by rw [f_row_t (by first | exact Or.inl (by assumption) | exact Or.inr (by assumption))]⟩ dX6_popRow_25
  · skip
    have c_3 := bI_f c_3
    refine lv_iload_n hx hb dX6_popRow_12 rfl (lv_at hl 0 rfl) ?_
    refine lv_iconst (v := 4) hx hb dX6_popRow_13 (by decide) ?_
    refine lv_icmp_ne (tgt := 24) hx hb dX6_popRow_14 (by decide) (fun c_5 => ?_) (fun c_5 => ?_)
    · skip
      refine lv_iconst (v := 0) hx hb dX6_popRow_24 (by decide) ?_
      exact m_iret X hr hlk hw hS (Nat.le_of_ble_eq_true rfl) (Nat.le_of_ble_eq_true rfl) ⟨rfl, by rw [f_row_f (by assumption) (by assumption)], by rw [f_row_f (by assumption) (by assumption)]⟩ dX6_popRow_25
    · skip
      refine lv_aload_n hx hb dX6_popRow_17 rfl (lv_at hl 1 rfl) ?_
      refine m_calli (m_runV (i := nm a b) (ci := 4) (As := []) (rest := []) X (k_F6_popOne Γ l L x a b h d  hp (by omega)) v_X6_popOne ml_X6_58 hw hS (p_obj Γ L (c := sP x a b (h, d)) hp) rfl rfl rfl hl.1 ⟨Nat.le_of_ble_eq_true rfl, Nat.le_of_ble_eq_true rfl⟩ (Nat.le_of_ble_eq_true rfl) ⟨Nat.le_of_ble_eq_true rfl, Nat.le_of_ble_eq_true rfl⟩ dX6_popRow_18) hS (fun r_6 L1 M1 H locs hp_6 hw hS => ?_)
      obtain ⟨e1, er_6, e2⟩ := hp_6
      rw [e1, e2] at hw; clear e1 e2
      refine lv_goto (tgt := 25) hx hb dX6_popRow_21 (by decide) ?_
      exact m_iret X hr hlk hw hS (Nat.le_of_ble_eq_true rfl) (Nat.le_of_ble_eq_true rfl) ⟨rfl, by rw [f_row_t (by first | exact Or.inl (by assumption) | exact Or.inr (by assumption))]; exact er_6, by rw [f_row_t (by first | exact Or.inl (by assumption) | exact Or.inr (by assumption))]⟩ dX6_popRow_25
set_option maxHeartbeats 4000000 in
set_option maxRecDepth 100000 in
theorem k_F6_write (Γ : mG) (l : Launch) (L : mI → Nat) (x : CS) (a b : Nat) (h : Nat → Int32) (d : Nat) (kn : Nat) (k : Int32) (w : Int32) (hp : pOK x a b) (hd : d ≤ 8) (hP : Pd h) (hkn : kn < 8) (ek : k = nI kn) : mMet Γ l yX6_write cX6_write 5 none { frames := 0, cells := 0, slots := 0, locals := 0 } [.ref (L (nm a b)), .int k, .int w] L (cM Γ L (sP x a b (h, d))) (mQv Γ (fun L1 M1 => L1 = L ∧ M1 = cM Γ L (sP x a b (p_local h kn w, d)))) := by
  refine m_start (by decide) (Nat.le_of_ble_eq_true rfl) ?_
  intro p e s m args below meth c A ls X hr hlk hnm hw hS hl
  have hx := X.1.1
  have hb := X.1.2.1
  have hl : lv_has ls 5 [(0, .ref (L (nm a b))), (1, .int k), (2, .int w)] := hl
  have K107 : ∀ (u v : Int32) (g : Nat → Int32) (H : Heap) (locs : List Loc) (ls : Array Slot), upd g kn w = p_local h kn w → mW Γ.1 vwCl A L (cM Γ L (sP x a b (g, d))) H → va_S A s.heap H locs → lv_has ls 5 [(3, .int u), (4, .int v), (0, .ref (L (nm a b))), (1, .int k), (2, .int w)] → W p l e { frames := 0, cells := 0, slots := 0, locals := 0 } s m args below meth c H locs 0 0 (MQ below (mQv Γ (fun L1 M1 => L1 = L ∧ M1 = cM Γ L (sP x a b (p_local h kn w, d))) A) args s 0 0 A) (F0 m 107 ls []) := by
    intro u v g H locs ls hE hw hS hl
    refine lv_aload_n hx hb dX6_write_107 rfl (lv_at hl 2 rfl) ?_
    refine p_getk X hw hp fl_X6_9 rfl dX6_write_108 ?_
    refine lv_iload_n hx hb dX6_write_111 rfl (lv_at hl 3 rfl) ?_
    refine lv_iload_n hx hb dX6_write_112 rfl (lv_at hl 4 rfl) ?_
    refine p_ast (n := kn) (v := w) X hw hp hS ek (by omega) dX6_write_113 (fun H locs hw hS => ?_)
    exact m_vret X hr hlk hw hS (Nat.le_of_ble_eq_true rfl) (Nat.le_of_ble_eq_true rfl) ⟨rfl, by rw [hE]⟩ dX6_write_114
  have K74 : ∀ (u v : Int32) (g : Nat → Int32) (H : Heap) (locs : List Loc) (ls : Array Slot), u = bI (decide (h kn = 2)) → g = p_local1 h kn → mW Γ.1 vwCl A L (cM Γ L (sP x a b (g, d))) H → va_S A s.heap H locs → lv_has ls 5 [(3, .int u), (4, .int v), (0, .ref (L (nm a b))), (1, .int k), (2, .int w)] → W p l e { frames := 0, cells := 0, slots := 0, locals := 0 } s m args below meth c H locs 0 0 (MQ below (mQv Γ (fun L1 M1 => L1 = L ∧ M1 = cM Γ L (sP x a b (p_local h kn w, d))) A) args s 0 0 A) (F0 m 74 ls []) := by
    intro u v g H locs ls hu hg hw hS hl
    refine lv_iload_n hx hb dX6_write_74 rfl (lv_at hl 3 rfl) ?_
    refine lv_iconst (v := 1) hx hb dX6_write_75 (by decide) ?_
    refine lv_iadd hx hb dX6_write_76 ?_
    refine lv_bipush (v := 8) hx hb dX6_write_77 (by decide) ?_
    refine lv_icmp_ge (tgt := 107) hx hb dX6_write_79 (by decide) (fun c_1 => ?_) (fun c_1 => ?_)
    · skip
      have c_1n : (kn + 1) ≥ 8 := ngeT (a := kn + 1) (b := 8) (nadd (a := kn) (b := 1) ek rfl) rfl (by omega) (by omega) c_1
      have c_1m : ¬ (kn + 1) < 8 := by omega
      exact K107 _ _ _ _ _ ls (by subst hg; first | exact w2_e (by assumption) | exact w2_t hP (by assumption) (of_decide_eq_true (bI_t (fun z9 => absurd (hu.trans z9) (by assumption)))) | exact absurd (by assumption) (w2_c hP (by assumption) (of_decide_eq_false (bI_f (hu.symm.trans (by assumption))))) | exact w2_n (of_decide_eq_false (bI_f (hu.symm.trans (by assumption))))) hw hS (lv_sub hl [0, 1, 2, 3, 4] rfl)
    · skip
      have c_1n : ¬ (kn + 1) ≥ 8 := ngeF (a := kn + 1) (b := 8) (nadd (a := kn) (b := 1) ek rfl) rfl (by omega) (by omega) c_1
      have c_1m : (kn + 1) < 8 := by omega
      refine lv_iload_n hx hb dX6_write_82 rfl (lv_at hl 0 rfl) ?_
      refine lv_if_ne (tgt := 98) hx hb dX6_write_83 (by decide) (fun c_2 => ?_) (fun c_2 => ?_)
      · skip
        refine lv_aload_n hx hb dX6_write_98 rfl (lv_at hl 2 rfl) ?_
        refine p_getk X hw hp fl_X6_9 rfl dX6_write_99 ?_
        refine lv_iload_n hx hb dX6_write_102 rfl (lv_at hl 3 rfl) ?_
        refine lv_iconst (v := 1) hx hb dX6_write_103 (by decide) ?_
        refine lv_iadd hx hb dX6_write_104 ?_
        refine lv_iconst (v := 0) hx hb dX6_write_105 (by decide) ?_
        refine p_ast (n := kn + 1) (v := 0) X hw hp hS (nadd (a := kn) (b := 1) ek rfl) (by omega) dX6_write_106 (fun H locs hw hS => ?_)
        exact K107 _ _ _ _ _ ls (by subst hg; first | exact w2_e (by assumption) | exact w2_t hP (by assumption) (of_decide_eq_true (bI_t (fun z9 => absurd (hu.trans z9) (by assumption)))) | exact absurd (by assumption) (w2_c hP (by assumption) (of_decide_eq_false (bI_f (hu.symm.trans (by assumption))))) | exact w2_n (of_decide_eq_false (bI_f (hu.symm.trans (by assumption))))) hw hS (lv_sub hl [0, 1, 2, 3, 4] rfl)
      · skip
        refine lv_aload_n hx hb dX6_write_86 rfl (lv_at hl 2 rfl) ?_
        refine p_getk X hw hp fl_X6_9 rfl dX6_write_87 ?_
        refine lv_iload_n hx hb dX6_write_90 rfl (lv_at hl 3 rfl) ?_
        refine lv_iconst (v := 1) hx hb dX6_write_91 (by decide) ?_
        refine lv_iadd hx hb dX6_write_92 ?_
        refine p_ald (n := kn + 1) X hw hp (nadd (a := kn) (b := 1) ek rfl) (by omega) dX6_write_93 ?_
        refine lv_iconst (v := 3) hx hb dX6_write_94 (by decide) ?_
        refine lv_icmp_ne (tgt := 107) hx hb dX6_write_95 (by decide) (fun c_3 => ?_) (fun c_3 => ?_)
        · skip
          exact K107 _ _ _ _ _ ls (by subst hg; first | exact w2_e (by assumption) | exact w2_t hP (by assumption) (of_decide_eq_true (bI_t (fun z9 => absurd (hu.trans z9) (by assumption)))) | exact absurd (by assumption) (w2_c hP (by assumption) (of_decide_eq_false (bI_f (hu.symm.trans (by assumption))))) | exact w2_n (of_decide_eq_false (bI_f (hu.symm.trans (by assumption))))) hw hS (lv_sub hl [0, 1, 2, 3, 4] rfl)
        · skip
          refine lv_aload_n hx hb dX6_write_98 rfl (lv_at hl 2 rfl) ?_
          refine p_getk X hw hp fl_X6_9 rfl dX6_write_99 ?_
          refine lv_iload_n hx hb dX6_write_102 rfl (lv_at hl 3 rfl) ?_
          refine lv_iconst (v := 1) hx hb dX6_write_103 (by decide) ?_
          refine lv_iadd hx hb dX6_write_104 ?_
          refine lv_iconst (v := 0) hx hb dX6_write_105 (by decide) ?_
          refine p_ast (n := kn + 1) (v := 0) X hw hp hS (nadd (a := kn) (b := 1) ek rfl) (by omega) dX6_write_106 (fun H locs hw hS => ?_)
          exact K107 _ _ _ _ _ ls (by subst hg; first | exact w2_e (by assumption) | exact w2_t hP (by assumption) (of_decide_eq_true (bI_t (fun z9 => absurd (hu.trans z9) (by assumption)))) | exact absurd (by assumption) (w2_c hP (by assumption) (of_decide_eq_false (bI_f (hu.symm.trans (by assumption))))) | exact w2_n (of_decide_eq_false (bI_f (hu.symm.trans (by assumption))))) hw hS (lv_sub hl [0, 1, 2, 3, 4] rfl)
  have K44 : ∀ (u v : Int32) (H : Heap) (locs : List Loc) (ls : Array Slot), u = bI (decide (h kn = 2)) → v = bI (decide (h kn = 3)) → mW Γ.1 vwCl A L (cM Γ L (sP x a b (h, d))) H → va_S A s.heap H locs → lv_has ls 5 [(3, .int u), (4, .int v), (0, .ref (L (nm a b))), (1, .int k), (2, .int w)] → W p l e { frames := 0, cells := 0, slots := 0, locals := 0 } s m args below meth c H locs 0 0 (MQ below (mQv Γ (fun L1 M1 => L1 = L ∧ M1 = cM Γ L (sP x a b (p_local h kn w, d))) A) args s 0 0 A) (F0 m 44 ls []) := by
    intro u v H locs ls hu hv hw hS hl
    refine lv_iload_n hx hb dX6_write_44 rfl (lv_at hl 3 rfl) ?_
    refine lv_if_le (tgt := 74) hx hb dX6_write_45 (by decide) (fun c_4 => ?_) (fun c_4 => ?_)
    · skip
      have c_4n : kn ≤ 0 := nleT (a := kn) (b := 0) ek rfl (by omega) (by omega) c_4
      have c_4m : ¬ 0 < kn := by omega
      exact K74 _ _ _ _ _ ls hu (by first | exact (w1_0 (by assumption)).symm | exact (w1_s hP (by assumption) hkn (of_decide_eq_true (bI_t (fun z9 => absurd (hv.trans z9) (by assumption))))).symm | exact absurd (by assumption) (w1_c hP (by assumption) hkn (of_decide_eq_false (bI_f (hv.symm.trans (by assumption))))) | exact (w1_n (of_decide_eq_false (bI_f (hv.symm.trans (by assumption))))).symm) hw hS (lv_sub hl [0, 1, 2, 3, 4] rfl)
    · skip
      have c_4n : ¬ kn ≤ 0 := nleF (a := kn) (b := 0) ek rfl (by omega) (by omega) c_4
      have c_4m : 0 < kn := by omega
      refine lv_iload hx hb dX6_write_48 (lv_at hl 1 rfl) ?_
      refine lv_if_ne (tgt := 65) hx hb dX6_write_50 (by decide) (fun c_5 => ?_) (fun c_5 => ?_)
      · skip
        refine lv_aload_n hx hb dX6_write_65 rfl (lv_at hl 2 rfl) ?_
        refine p_getk X hw hp fl_X6_9 rfl dX6_write_66 ?_
        refine lv_iload_n hx hb dX6_write_69 rfl (lv_at hl 3 rfl) ?_
        refine lv_iconst (v := 1) hx hb dX6_write_70 (by decide) ?_
        refine lv_isub hx hb dX6_write_71 ?_
        refine lv_iconst (v := 0) hx hb dX6_write_72 (by decide) ?_
        refine p_ast (n := kn - 1) (v := 0) X hw hp hS (nsub (a := kn) (b := 1) (by omega) ek rfl) (by omega) dX6_write_73 (fun H locs hw hS => ?_)
        exact K74 _ _ _ _ _ ls hu (by first | exact (w1_0 (by assumption)).symm | exact (w1_s hP (by assumption) hkn (of_decide_eq_true (bI_t (fun z9 => absurd (hv.trans z9) (by assumption))))).symm | exact absurd (by assumption) (w1_c hP (by assumption) hkn (of_decide_eq_false (bI_f (hv.symm.trans (by assumption))))) | exact (w1_n (of_decide_eq_false (bI_f (hv.symm.trans (by assumption))))).symm) hw hS (lv_sub hl [0, 1, 2, 3, 4] rfl)
      · skip
        refine lv_aload_n hx hb dX6_write_53 rfl (lv_at hl 2 rfl) ?_
        refine p_getk X hw hp fl_X6_9 rfl dX6_write_54 ?_
        refine lv_iload_n hx hb dX6_write_57 rfl (lv_at hl 3 rfl) ?_
        refine lv_iconst (v := 1) hx hb dX6_write_58 (by decide) ?_
        refine lv_isub hx hb dX6_write_59 ?_
        refine p_ald (n := kn - 1) X hw hp (nsub (a := kn) (b := 1) (by omega) ek rfl) (by omega) dX6_write_60 ?_
        refine lv_iconst (v := 2) hx hb dX6_write_61 (by decide) ?_
        refine lv_icmp_ne (tgt := 74) hx hb dX6_write_62 (by decide) (fun c_6 => ?_) (fun c_6 => ?_)
        · skip
          exact K74 _ _ _ _ _ ls hu (by first | exact (w1_0 (by assumption)).symm | exact (w1_s hP (by assumption) hkn (of_decide_eq_true (bI_t (fun z9 => absurd (hv.trans z9) (by assumption))))).symm | exact absurd (by assumption) (w1_c hP (by assumption) hkn (of_decide_eq_false (bI_f (hv.symm.trans (by assumption))))) | exact (w1_n (of_decide_eq_false (bI_f (hv.symm.trans (by assumption))))).symm) hw hS (lv_sub hl [0, 1, 2, 3, 4] rfl)
        · skip
          refine lv_aload_n hx hb dX6_write_65 rfl (lv_at hl 2 rfl) ?_
          refine p_getk X hw hp fl_X6_9 rfl dX6_write_66 ?_
          refine lv_iload_n hx hb dX6_write_69 rfl (lv_at hl 3 rfl) ?_
          refine lv_iconst (v := 1) hx hb dX6_write_70 (by decide) ?_
          refine lv_isub hx hb dX6_write_71 ?_
          refine lv_iconst (v := 0) hx hb dX6_write_72 (by decide) ?_
          refine p_ast (n := kn - 1) (v := 0) X hw hp hS (nsub (a := kn) (b := 1) (by omega) ek rfl) (by omega) dX6_write_73 (fun H locs hw hS => ?_)
          exact K74 _ _ _ _ _ ls hu (by first | exact (w1_0 (by assumption)).symm | exact (w1_s hP (by assumption) hkn (of_decide_eq_true (bI_t (fun z9 => absurd (hv.trans z9) (by assumption))))).symm | exact absurd (by assumption) (w1_c hP (by assumption) hkn (of_decide_eq_false (bI_f (hv.symm.trans (by assumption))))) | exact (w1_n (of_decide_eq_false (bI_f (hv.symm.trans (by assumption))))).symm) hw hS (lv_sub hl [0, 1, 2, 3, 4] rfl)
  refine lv_iload_n hx hb dX6_write_0 rfl (lv_at hl 1 rfl) ?_
  refine lv_if_lt (tgt := 10) hx hb dX6_write_1 (by decide) (fun c_7 => ?_) (fun c_7 => ?_)
  · skip
    have c_7n : kn < 0 := nltT (a := kn) (b := 0) ek rfl (by omega) (by omega) c_7
    have c_7m : ¬ 0 ≤ kn := by omega
    exact (by omega : False).elim
  · skip
    have c_7n : ¬ kn < 0 := nltF (a := kn) (b := 0) ek rfl (by omega) (by omega) c_7
    have c_7m : 0 ≤ kn := by omega
    refine lv_iload_n hx hb dX6_write_4 rfl (lv_at hl 1 rfl) ?_
    refine lv_bipush (v := 8) hx hb dX6_write_5 (by decide) ?_
    refine lv_icmp_lt (tgt := 11) hx hb dX6_write_7 (by decide) (fun c_8 => ?_) (fun c_8 => ?_)
    · skip
      have c_8n : kn < 8 := nltT (a := kn) (b := 8) ek rfl (by omega) (by omega) c_8
      have c_8m : ¬ 8 ≤ kn := by omega
      refine lv_aload_n hx hb dX6_write_11 rfl (lv_at hl 0 rfl) ?_
      refine p_getk X hw hp fl_X6_9 rfl dX6_write_12 ?_
      refine lv_iload_n hx hb dX6_write_15 rfl (lv_at hl 1 rfl) ?_
      refine p_ald (n := kn) X hw hp ek (by omega) dX6_write_16 ?_
      refine lv_iconst (v := 2) hx hb dX6_write_17 (by decide) ?_
      refine lv_icmp_ne (tgt := 25) hx hb dX6_write_18 (by decide) (fun c_9 => ?_) (fun c_9 => ?_)
      · skip
        refine lv_iconst (v := 0) hx hb dX6_write_25 (by decide) ?_
        refine lv_istore_n (lv' := [(3, .int 0), (0, .ref (L (nm a b))), (1, .int k), (2, .int w)]) hx hb dX6_write_26 rfl hl (by decide) rfl (fun ls hl => ?_)
        refine lv_aload_n hx hb dX6_write_27 rfl (lv_at hl 1 rfl) ?_
        refine p_getk X hw hp fl_X6_9 rfl dX6_write_28 ?_
        refine lv_iload_n hx hb dX6_write_31 rfl (lv_at hl 2 rfl) ?_
        refine p_ald (n := kn) X hw hp ek (by omega) dX6_write_32 ?_
        refine lv_iconst (v := 3) hx hb dX6_write_33 (by decide) ?_
        refine lv_icmp_ne (tgt := 41) hx hb dX6_write_34 (by decide) (fun c_10 => ?_) (fun c_10 => ?_)
        · skip
          refine lv_iconst (v := 0) hx hb dX6_write_41 (by decide) ?_
          refine lv_istore (lv' := [(4, .int 0), (3, .int 0), (0, .ref (L (nm a b))), (1, .int k), (2, .int w)]) hx hb dX6_write_42 hl (by decide) rfl (fun ls hl => ?_)
          exact K44 _ _ _ _ ls (by first | (rw [decide_eq_true (show h kn = 2 by assumption)]; rfl) | (rw [decide_eq_false (show ¬ h kn = 2 by assumption)]; rfl)) (by first | (rw [decide_eq_true (show h kn = 3 by assumption)]; rfl) | (rw [decide_eq_false (show ¬ h kn = 3 by assumption)]; rfl)) hw hS (lv_sub hl [1, 0, 2, 3, 4] rfl)
        · skip
          refine lv_iconst (v := 1) hx hb dX6_write_37 (by decide) ?_
          refine lv_goto (tgt := 42) hx hb dX6_write_38 (by decide) ?_
          refine lv_istore (lv' := [(4, .int 1), (3, .int 0), (0, .ref (L (nm a b))), (1, .int k), (2, .int w)]) hx hb dX6_write_42 hl (by decide) rfl (fun ls hl => ?_)
          exact K44 _ _ _ _ ls (by first | (rw [decide_eq_true (show h kn = 2 by assumption)]; rfl) | (rw [decide_eq_false (show ¬ h kn = 2 by assumption)]; rfl)) (by first | (rw [decide_eq_true (show h kn = 3 by assumption)]; rfl) | (rw [decide_eq_false (show ¬ h kn = 3 by assumption)]; rfl)) hw hS (lv_sub hl [1, 0, 2, 3, 4] rfl)
      · skip
        refine lv_iconst (v := 1) hx hb dX6_write_21 (by decide) ?_
        refine lv_goto (tgt := 26) hx hb dX6_write_22 (by decide) ?_
        refine lv_istore_n (lv' := [(3, .int 1), (0, .ref (L (nm a b))), (1, .int k), (2, .int w)]) hx hb dX6_write_26 rfl hl (by decide) rfl (fun ls hl => ?_)
        refine lv_aload_n hx hb dX6_write_27 rfl (lv_at hl 1 rfl) ?_
        refine p_getk X hw hp fl_X6_9 rfl dX6_write_28 ?_
        refine lv_iload_n hx hb dX6_write_31 rfl (lv_at hl 2 rfl) ?_
        refine p_ald (n := kn) X hw hp ek (by omega) dX6_write_32 ?_
        refine lv_iconst (v := 3) hx hb dX6_write_33 (by decide) ?_
        refine lv_icmp_ne (tgt := 41) hx hb dX6_write_34 (by decide) (fun c_11 => ?_) (fun c_11 => ?_)
        · skip
          refine lv_iconst (v := 0) hx hb dX6_write_41 (by decide) ?_
          refine lv_istore (lv' := [(4, .int 0), (3, .int 1), (0, .ref (L (nm a b))), (1, .int k), (2, .int w)]) hx hb dX6_write_42 hl (by decide) rfl (fun ls hl => ?_)
          exact K44 _ _ _ _ ls (by first | (rw [decide_eq_true (show h kn = 2 by assumption)]; rfl) | (rw [decide_eq_false (show ¬ h kn = 2 by assumption)]; rfl)) (by first | (rw [decide_eq_true (show h kn = 3 by assumption)]; rfl) | (rw [decide_eq_false (show ¬ h kn = 3 by assumption)]; rfl)) hw hS (lv_sub hl [1, 0, 2, 3, 4] rfl)
        · skip
          refine lv_iconst (v := 1) hx hb dX6_write_37 (by decide) ?_
          refine lv_goto (tgt := 42) hx hb dX6_write_38 (by decide) ?_
          refine lv_istore (lv' := [(4, .int 1), (3, .int 1), (0, .ref (L (nm a b))), (1, .int k), (2, .int w)]) hx hb dX6_write_42 hl (by decide) rfl (fun ls hl => ?_)
          exact K44 _ _ _ _ ls (by first | (rw [decide_eq_true (show h kn = 2 by assumption)]; rfl) | (rw [decide_eq_false (show ¬ h kn = 2 by assumption)]; rfl)) (by first | (rw [decide_eq_true (show h kn = 3 by assumption)]; rfl) | (rw [decide_eq_false (show ¬ h kn = 3 by assumption)]; rfl)) hw hS (lv_sub hl [1, 0, 2, 3, 4] rfl)
    · skip
      have c_8n : ¬ kn < 8 := nltF (a := kn) (b := 8) ek rfl (by omega) (by omega) c_8
      have c_8m : 8 ≤ kn := by omega
      exact (by omega : False).elim
set_option maxHeartbeats 4000000 in
set_option maxRecDepth 100000 in
theorem k_F6_writeLong (Γ : mG) (l : Launch) (L : mI → Nat) (x : CS) (a b : Nat) (h : Nat → Int32) (d : Nat) (kn : Nat) (k : Int32) (hp : pOK x a b) (hd : d ≤ 8) (hP : Pd h) (hkn : kn < 7) (ek : k = nI kn) : mMet Γ l yX6_writeLong cX6_writeLong 2 none { frames := 1, cells := 0, slots := 0, locals := 24 } [.ref (L (nm a b)), .int k] L (cM Γ L (sP x a b (h, d))) (mQv Γ (fun L1 M1 => L1 = L ∧ M1 = cM Γ L (sP x a b (upd (p_local (p_local h kn 0) (kn + 1) 3) kn 2, d)))) := by
  refine m_start (by decide) (Nat.le_of_ble_eq_true rfl) ?_
  intro p e s m args below meth c A ls X hr hlk hnm hw hS hl
  have hx := X.1.1
  have hb := X.1.2.1
  have hl : lv_has ls 2 [(0, .ref (L (nm a b))), (1, .int k)] := hl
  refine lv_aload_n hx hb dX6_writeLong_0 rfl (lv_at hl 0 rfl) ?_
  refine lv_iload_n hx hb dX6_writeLong_1 rfl (lv_at hl 1 rfl) ?_
  refine lv_iconst (v := 0) hx hb dX6_writeLong_2 (by decide) ?_
  refine m_callv (m_runV (i := nm a b) (ci := 4) (As := [.int k, .int 0]) (rest := []) X (k_F6_write Γ l L x a b h d kn k 0 hp (by omega) hP (by omega) ek) v_X6_write ml_X6_61 hw hS (p_obj Γ L (c := sP x a b (h, d)) hp) rfl rfl rfl hl.1 ⟨Nat.le_of_ble_eq_true rfl, Nat.le_of_ble_eq_true rfl⟩ (Nat.le_of_ble_eq_true rfl) ⟨Nat.le_of_ble_eq_true rfl, Nat.le_of_ble_eq_true rfl⟩ dX6_writeLong_3) hS (fun L1 M1 H locs hp_1 hw hS => ?_)
  obtain ⟨e1, e2⟩ := hp_1
  rw [e1, e2] at hw; clear e1 e2
  refine lv_aload_n hx hb dX6_writeLong_6 rfl (lv_at hl 0 rfl) ?_
  refine lv_iload_n hx hb dX6_writeLong_7 rfl (lv_at hl 1 rfl) ?_
  refine lv_iconst (v := 1) hx hb dX6_writeLong_8 (by decide) ?_
  refine lv_iadd hx hb dX6_writeLong_9 ?_
  refine lv_iconst (v := 3) hx hb dX6_writeLong_10 (by decide) ?_
  refine m_callv (m_runV (i := nm a b) (ci := 4) (As := [.int (k + 1), .int 3]) (rest := []) X (k_F6_write Γ l L x a b (p_local h kn 0) d (kn + 1) (k + 1) 3 hp (by omega) (Pd_local hP (by decide) (by decide)) (by omega) (nadd (a := kn) (b := 1) ek rfl)) v_X6_write ml_X6_61 hw hS (p_obj Γ L (c := sP x a b (p_local h kn 0, d)) hp) rfl rfl rfl hl.1 ⟨Nat.le_of_ble_eq_true rfl, Nat.le_of_ble_eq_true rfl⟩ (Nat.le_of_ble_eq_true rfl) ⟨Nat.le_of_ble_eq_true rfl, Nat.le_of_ble_eq_true rfl⟩ dX6_writeLong_11) hS (fun L1 M1 H locs hp_2 hw hS => ?_)
  obtain ⟨e1, e2⟩ := hp_2
  rw [e1, e2] at hw; clear e1 e2
  refine lv_iload_n hx hb dX6_writeLong_14 rfl (lv_at hl 1 rfl) ?_
  refine lv_if_lt (tgt := 31) hx hb dX6_writeLong_15 (by decide) (fun c_3 => ?_) (fun c_3 => ?_)
  · skip
    have c_3n : kn < 0 := nltT (a := kn) (b := 0) ek rfl (by omega) (by omega) c_3
    have c_3m : ¬ 0 ≤ kn := by omega
    exact (by omega : False).elim
  · skip
    have c_3n : ¬ kn < 0 := nltF (a := kn) (b := 0) ek rfl (by omega) (by omega) c_3
    have c_3m : 0 ≤ kn := by omega
    refine lv_iload_n hx hb dX6_writeLong_18 rfl (lv_at hl 1 rfl) ?_
    refine lv_bipush (v := 8) hx hb dX6_writeLong_19 (by decide) ?_
    refine lv_icmp_ge (tgt := 31) hx hb dX6_writeLong_21 (by decide) (fun c_4 => ?_) (fun c_4 => ?_)
    · skip
      have c_4n : kn ≥ 8 := ngeT (a := kn) (b := 8) ek rfl (by omega) (by omega) c_4
      have c_4m : ¬ kn < 8 := by omega
      exact (by omega : False).elim
    · skip
      have c_4n : ¬ kn ≥ 8 := ngeF (a := kn) (b := 8) ek rfl (by omega) (by omega) c_4
      have c_4m : kn < 8 := by omega
      refine lv_aload_n hx hb dX6_writeLong_24 rfl (lv_at hl 0 rfl) ?_
      refine p_getk X hw hp fl_X6_9 rfl dX6_writeLong_25 ?_
      refine lv_iload_n hx hb dX6_writeLong_28 rfl (lv_at hl 1 rfl) ?_
      refine lv_iconst (v := 2) hx hb dX6_writeLong_29 (by decide) ?_
      refine p_ast (n := kn) (v := 2) X hw hp hS ek (by omega) dX6_writeLong_30 (fun H locs hw hS => ?_)
      exact m_vret X hr hlk hw hS (Nat.le_of_ble_eq_true rfl) (Nat.le_of_ble_eq_true rfl) ⟨rfl, rfl⟩ dX6_writeLong_31
set_option maxHeartbeats 4000000 in
set_option maxRecDepth 100000 in
theorem k_F6_stackHolds (Γ : mG) (l : Launch) (L : mI → Nat) (x : CS) (a b : Nat) (h : Nat → Int32) (d : Nat) (k : Int32) (hp : pOK x a b) (hd : d ≤ 8) : mMet Γ l yX6_stackHolds cX6_stackHolds 3 (some .boolean) { frames := 1, cells := 0, slots := 0, locals := 21 } [.ref (L (nm a b)), .int k] L (cM Γ L (sP x a b (h, d))) (mQi Γ (fun r L1 M1 => r = bI (p_holds h k d) ∧ L1 = L ∧ M1 = cM Γ L (sP x a b (h, d)))) := by
  refine m_start (by decide) (Nat.le_of_ble_eq_true rfl) ?_
  intro p e s m args below meth c A ls X hr hlk hnm hw hS hl
  have hx := X.1.1
  have hb := X.1.2.1
  have hl : lv_has ls 3 [(0, .ref (L (nm a b))), (1, .int k)] := hl
  have KL : ∀ (n : Nat) (t : Nat) (j : Int32) (H : Heap) (locs : List Loc) (ls : Array Slot), t + n = 16 → j = nI t → (∀ i, 8 + i < t → ¬ h (8 + i) = k) → 8 ≤ t → mW Γ.1 vwCl A L (cM Γ L (sP x a b (h, d))) H → va_S A s.heap H locs → lv_has ls 3 [(2, .int j), (0, .ref (L (nm a b))), (1, .int k)] → W p l e { frames := 1, cells := 0, slots := 0, locals := 21 } s m args below meth c H locs 0 0 (MQ below (mQi Γ (fun r L1 M1 => r = bI (p_holds h k d) ∧ L1 = L ∧ M1 = cM Γ L (sP x a b (h, d))) A) args s 0 0 A) (F0 m 3 ls []) := by
    intro n
    induction n with
    | zero =>
      intro t j H locs ls f0 f1 f2 f3 hw hS hl
      refine lv_iload_n hx hb dX6_stackHolds_3 rfl (lv_at hl 0 rfl) ?_
      refine lv_bipush (v := 16) hx hb dX6_stackHolds_4 (by decide) ?_
      refine lv_icmp_ge (tgt := 35) hx hb dX6_stackHolds_6 (by decide) (fun c_1 => ?_) (fun c_1 => ?_)
      · skip
        have c_1n : t ≥ 16 := ngeT (a := t) (b := 16) f1 rfl (by omega) (by omega) c_1
        have c_1m : ¬ t < 16 := by omega
        refine lv_iconst (v := 0) hx hb dX6_stackHolds_35 (by decide) ?_
        exact m_zret (b := false) X hr hlk hw hS (Nat.le_of_ble_eq_true rfl) (Nat.le_of_ble_eq_true rfl) rfl ⟨by rw [holds_no (h := h) (k := k) d (fun i9 h9 => f2 i9 (by first | omega | (have := of_decide_eq_false (show decide (t < 8 + d) = false by assumption); omega)))], rfl, rfl⟩ dX6_stackHolds_36
      · skip
        have c_1n : ¬ t ≥ 16 := ngeF (a := t) (b := 16) f1 rfl (by omega) (by omega) c_1
        have c_1m : t < 16 := by omega
        refine lv_aload_n hx hb dX6_stackHolds_9 rfl (lv_at hl 1 rfl) ?_
        refine lv_iload_n hx hb dX6_stackHolds_10 rfl (lv_at hl 0 rfl) ?_
        refine m_calli (m_runV (i := nm a b) (ci := 4) (As := [.int j]) (rest := []) X (k_X6_has Γ l L (sP x a b (h, d)) a b j hp) v_X6_has ml_X6_29 hw hS (p_obj Γ L (c := sP x a b (h, d)) hp) rfl rfl rfl hl.1 ⟨Nat.le_of_ble_eq_true rfl, Nat.le_of_ble_eq_true rfl⟩ (Nat.le_of_ble_eq_true rfl) ⟨Nat.le_of_ble_eq_true rfl, Nat.le_of_ble_eq_true rfl⟩ dX6_stackHolds_11) hS (fun r_2 L1 M1 H locs hp_2 hw hS => ?_)
        obtain ⟨e0, e1, e2⟩ := hp_2
        rw [sP_dep, f1, has_nI (by omega) (by omega)] at e0
        subst e0; rw [e1, e2] at hw; clear e1 e2
        refine lv_if_eq (tgt := 35) hx hb dX6_stackHolds_14 (by decide) (fun c_3 => ?_) (fun c_3 => ?_)
        · skip
          have c_3 := bI_f c_3
          refine lv_iconst (v := 0) hx hb dX6_stackHolds_35 (by decide) ?_
          exact m_zret (b := false) X hr hlk hw hS (Nat.le_of_ble_eq_true rfl) (Nat.le_of_ble_eq_true rfl) rfl ⟨by rw [holds_no (h := h) (k := k) d (fun i9 h9 => f2 i9 (by first | omega | (have := of_decide_eq_false (show decide (t < 8 + d) = false by assumption); omega)))], rfl, rfl⟩ dX6_stackHolds_36
        · skip
          have c_3 := bI_t c_3
          refine lv_aload_n hx hb dX6_stackHolds_17 rfl (lv_at hl 1 rfl) ?_
          refine p_getk X hw hp fl_X6_9 rfl dX6_stackHolds_18 ?_
          refine lv_iload_n hx hb dX6_stackHolds_21 rfl (lv_at hl 0 rfl) ?_
          refine p_ald (n := t) X hw hp f1 (by omega) dX6_stackHolds_22 ?_
          refine lv_iload_n hx hb dX6_stackHolds_23 rfl (lv_at hl 2 rfl) ?_
          refine lv_icmp_ne (tgt := 29) hx hb dX6_stackHolds_24 (by decide) (fun c_4 => ?_) (fun c_4 => ?_)
          · skip
            refine lv_iinc (v := j + 1) (lv' := [(2, .int (j + 1)), (0, .ref (L (nm a b))), (1, .int k)]) hx hb dX6_stackHolds_29 hl (k := 0) rfl rfl (by decide) rfl (fun ls hl => ?_)
            refine lv_goto (tgt := 3) hx hb dX6_stackHolds_32 (by decide) ?_
            exact (by omega : False).elim
          · skip
            refine lv_iconst (v := 1) hx hb dX6_stackHolds_27 (by decide) ?_
            exact m_zret (b := true) X hr hlk hw hS (Nat.le_of_ble_eq_true rfl) (Nat.le_of_ble_eq_true rfl) rfl ⟨by rw [holds_yes (h := h) (k := k) (j := t - 8) (by rw [show 8 + (t - 8) = t by omega]; assumption) d (by first | omega | (have := of_decide_eq_true (show decide (t < 8 + d) = true by assumption); omega))], rfl, rfl⟩ dX6_stackHolds_28
    | succ n ih =>
      intro t j H locs ls f0 f1 f2 f3 hw hS hl
      refine lv_iload_n hx hb dX6_stackHolds_3 rfl (lv_at hl 0 rfl) ?_
      refine lv_bipush (v := 16) hx hb dX6_stackHolds_4 (by decide) ?_
      refine lv_icmp_ge (tgt := 35) hx hb dX6_stackHolds_6 (by decide) (fun c_5 => ?_) (fun c_5 => ?_)
      · skip
        have c_5n : t ≥ 16 := ngeT (a := t) (b := 16) f1 rfl (by omega) (by omega) c_5
        have c_5m : ¬ t < 16 := by omega
        refine lv_iconst (v := 0) hx hb dX6_stackHolds_35 (by decide) ?_
        exact m_zret (b := false) X hr hlk hw hS (Nat.le_of_ble_eq_true rfl) (Nat.le_of_ble_eq_true rfl) rfl ⟨by rw [holds_no (h := h) (k := k) d (fun i9 h9 => f2 i9 (by first | omega | (have := of_decide_eq_false (show decide (t < 8 + d) = false by assumption); omega)))], rfl, rfl⟩ dX6_stackHolds_36
      · skip
        have c_5n : ¬ t ≥ 16 := ngeF (a := t) (b := 16) f1 rfl (by omega) (by omega) c_5
        have c_5m : t < 16 := by omega
        refine lv_aload_n hx hb dX6_stackHolds_9 rfl (lv_at hl 1 rfl) ?_
        refine lv_iload_n hx hb dX6_stackHolds_10 rfl (lv_at hl 0 rfl) ?_
        refine m_calli (m_runV (i := nm a b) (ci := 4) (As := [.int j]) (rest := []) X (k_X6_has Γ l L (sP x a b (h, d)) a b j hp) v_X6_has ml_X6_29 hw hS (p_obj Γ L (c := sP x a b (h, d)) hp) rfl rfl rfl hl.1 ⟨Nat.le_of_ble_eq_true rfl, Nat.le_of_ble_eq_true rfl⟩ (Nat.le_of_ble_eq_true rfl) ⟨Nat.le_of_ble_eq_true rfl, Nat.le_of_ble_eq_true rfl⟩ dX6_stackHolds_11) hS (fun r_6 L1 M1 H locs hp_6 hw hS => ?_)
        obtain ⟨e0, e1, e2⟩ := hp_6
        rw [sP_dep, f1, has_nI (by omega) (by omega)] at e0
        subst e0; rw [e1, e2] at hw; clear e1 e2
        refine lv_if_eq (tgt := 35) hx hb dX6_stackHolds_14 (by decide) (fun c_7 => ?_) (fun c_7 => ?_)
        · skip
          have c_7 := bI_f c_7
          refine lv_iconst (v := 0) hx hb dX6_stackHolds_35 (by decide) ?_
          exact m_zret (b := false) X hr hlk hw hS (Nat.le_of_ble_eq_true rfl) (Nat.le_of_ble_eq_true rfl) rfl ⟨by rw [holds_no (h := h) (k := k) d (fun i9 h9 => f2 i9 (by first | omega | (have := of_decide_eq_false (show decide (t < 8 + d) = false by assumption); omega)))], rfl, rfl⟩ dX6_stackHolds_36
        · skip
          have c_7 := bI_t c_7
          refine lv_aload_n hx hb dX6_stackHolds_17 rfl (lv_at hl 1 rfl) ?_
          refine p_getk X hw hp fl_X6_9 rfl dX6_stackHolds_18 ?_
          refine lv_iload_n hx hb dX6_stackHolds_21 rfl (lv_at hl 0 rfl) ?_
          refine p_ald (n := t) X hw hp f1 (by omega) dX6_stackHolds_22 ?_
          refine lv_iload_n hx hb dX6_stackHolds_23 rfl (lv_at hl 2 rfl) ?_
          refine lv_icmp_ne (tgt := 29) hx hb dX6_stackHolds_24 (by decide) (fun c_8 => ?_) (fun c_8 => ?_)
          · skip
            refine lv_iinc (v := j + 1) (lv' := [(2, .int (j + 1)), (0, .ref (L (nm a b))), (1, .int k)]) hx hb dX6_stackHolds_29 hl (k := 0) rfl rfl (by decide) rfl (fun ls hl => ?_)
            refine lv_goto (tgt := 3) hx hb dX6_stackHolds_32 (by decide) ?_
            exact ih (t + 1) _ _ _ ls (by omega) (nadd (a := t) (b := 1) f1 rfl) (fun i9 h9 => by by_cases z9 : 8 + i9 = t; (rw [z9]; assumption); exact f2 i9 (by omega)) (by omega) hw hS (lv_sub hl [0, 1, 2] rfl)
          · skip
            refine lv_iconst (v := 1) hx hb dX6_stackHolds_27 (by decide) ?_
            exact m_zret (b := true) X hr hlk hw hS (Nat.le_of_ble_eq_true rfl) (Nat.le_of_ble_eq_true rfl) rfl ⟨by rw [holds_yes (h := h) (k := k) (j := t - 8) (by rw [show 8 + (t - 8) = t by omega]; assumption) d (by first | omega | (have := of_decide_eq_true (show decide (t < 8 + d) = true by assumption); omega))], rfl, rfl⟩ dX6_stackHolds_28
  refine lv_bipush (v := 8) hx hb dX6_stackHolds_0 (by decide) ?_
  refine lv_istore_n (lv' := [(2, .int 8), (0, .ref (L (nm a b))), (1, .int k)]) hx hb dX6_stackHolds_2 rfl hl (by decide) rfl (fun ls hl => ?_)
  exact KL 8 8 _ _ _ ls rfl rfl (fun i9 h9 => absurd h9 (by omega)) (by omega) hw hS (lv_sub hl [0, 1, 2] rfl)
set_option maxHeartbeats 4000000 in
set_option maxRecDepth 100000 in
theorem k_F6_replace (Γ : mG) (l : Launch) (L : mI → Nat) (x : CS) (a b : Nat) (h : Nat → Int32) (d : Nat) (k : Int32) (w : Int32) (hp : pOK x a b) (hd : d ≤ 8) : mMet Γ l yX6_replace cX6_replace 4 none { frames := 1, cells := 0, slots := 0, locals := 21 } [.ref (L (nm a b)), .int k, .int w] L (cM Γ L (sP x a b (h, d))) (mQv Γ (fun L1 M1 => L1 = L ∧ M1 = cM Γ L (sP x a b (p_repl h k w (8 + d), d)))) := by
  refine m_start (by decide) (Nat.le_of_ble_eq_true rfl) ?_
  intro p e s m args below meth c A ls X hr hlk hnm hw hS hl
  have hx := X.1.1
  have hb := X.1.2.1
  have hl : lv_has ls 4 [(0, .ref (L (nm a b))), (1, .int k), (2, .int w)] := hl
  have KL : ∀ (n : Nat) (t : Nat) (j : Int32) (H : Heap) (locs : List Loc) (ls : Array Slot), t + n = 16 → j = nI t → t ≤ 8 + d → mW Γ.1 vwCl A L (cM Γ L (sP x a b (p_repl h k w t, d))) H → va_S A s.heap H locs → lv_has ls 4 [(3, .int j), (0, .ref (L (nm a b))), (1, .int k), (2, .int w)] → W p l e { frames := 1, cells := 0, slots := 0, locals := 21 } s m args below meth c H locs 0 0 (MQ below (mQv Γ (fun L1 M1 => L1 = L ∧ M1 = cM Γ L (sP x a b (p_repl h k w (8 + d), d))) A) args s 0 0 A) (F0 m 2 ls []) := by
    intro n
    induction n with
    | zero =>
      intro t j H locs ls f0 f1 f2 hw hS hl
      refine lv_iload_n hx hb dX6_replace_2 rfl (lv_at hl 0 rfl) ?_
      refine lv_bipush (v := 16) hx hb dX6_replace_3 (by decide) ?_
      refine lv_icmp_ge (tgt := 39) hx hb dX6_replace_5 (by decide) (fun c_1 => ?_) (fun c_1 => ?_)
      · skip
        have c_1n : t ≥ 16 := ngeT (a := t) (b := 16) f1 rfl (by omega) (by omega) c_1
        have c_1m : ¬ t < 16 := by omega
        exact m_vret X hr hlk hw hS (Nat.le_of_ble_eq_true rfl) (Nat.le_of_ble_eq_true rfl) ⟨rfl, by rw [repl_all (h := h) (v := k) (w := w) (t := t) (n := 8 + d) (by omega) (by first | omega | (have := of_decide_eq_false (show decide (t < 8 + d) = false by assumption); omega))]⟩ dX6_replace_39
      · skip
        have c_1n : ¬ t ≥ 16 := ngeF (a := t) (b := 16) f1 rfl (by omega) (by omega) c_1
        have c_1m : t < 16 := by omega
        refine lv_aload_n hx hb dX6_replace_8 rfl (lv_at hl 1 rfl) ?_
        refine lv_iload_n hx hb dX6_replace_9 rfl (lv_at hl 0 rfl) ?_
        refine m_calli (m_runV (i := nm a b) (ci := 4) (As := [.int j]) (rest := []) X (k_X6_has Γ l L (sP x a b (p_repl h k w t, d)) a b j hp) v_X6_has ml_X6_29 hw hS (p_obj Γ L (c := sP x a b (p_repl h k w t, d)) hp) rfl rfl rfl hl.1 ⟨Nat.le_of_ble_eq_true rfl, Nat.le_of_ble_eq_true rfl⟩ (Nat.le_of_ble_eq_true rfl) ⟨Nat.le_of_ble_eq_true rfl, Nat.le_of_ble_eq_true rfl⟩ dX6_replace_10) hS (fun r_2 L1 M1 H locs hp_2 hw hS => ?_)
        obtain ⟨e0, e1, e2⟩ := hp_2
        rw [sP_dep, f1, has_nI (by omega) (by omega)] at e0
        subst e0; rw [e1, e2] at hw; clear e1 e2
        refine lv_if_eq (tgt := 39) hx hb dX6_replace_13 (by decide) (fun c_3 => ?_) (fun c_3 => ?_)
        · skip
          have c_3 := bI_f c_3
          exact m_vret X hr hlk hw hS (Nat.le_of_ble_eq_true rfl) (Nat.le_of_ble_eq_true rfl) ⟨rfl, by rw [repl_all (h := h) (v := k) (w := w) (t := t) (n := 8 + d) (by omega) (by first | omega | (have := of_decide_eq_false (show decide (t < 8 + d) = false by assumption); omega))]⟩ dX6_replace_39
        · skip
          have c_3 := bI_t c_3
          refine lv_aload_n hx hb dX6_replace_16 rfl (lv_at hl 1 rfl) ?_
          refine p_getk X hw hp fl_X6_9 rfl dX6_replace_17 ?_
          refine lv_iload_n hx hb dX6_replace_20 rfl (lv_at hl 0 rfl) ?_
          refine p_ald (n := t) X hw hp f1 (by omega) dX6_replace_21 ?_
          refine lv_iload_n hx hb dX6_replace_22 rfl (lv_at hl 2 rfl) ?_
          refine lv_icmp_ne (tgt := 33) hx hb dX6_replace_23 (by decide) (fun c_4 => ?_) (fun c_4 => ?_)
          · skip
            refine lv_iinc (v := j + 1) (lv' := [(3, .int (j + 1)), (0, .ref (L (nm a b))), (1, .int k), (2, .int w)]) hx hb dX6_replace_33 hl (k := 0) rfl rfl (by decide) rfl (fun ls hl => ?_)
            refine lv_goto (tgt := 2) hx hb dX6_replace_36 (by decide) ?_
            exact (by omega : False).elim
          · skip
            refine lv_aload_n hx hb dX6_replace_26 rfl (lv_at hl 1 rfl) ?_
            refine p_getk X hw hp fl_X6_9 rfl dX6_replace_27 ?_
            refine lv_iload_n hx hb dX6_replace_30 rfl (lv_at hl 0 rfl) ?_
            refine lv_iload_n hx hb dX6_replace_31 rfl (lv_at hl 3 rfl) ?_
            refine p_ast (n := t) (v := w) X hw hp hS f1 (by omega) dX6_replace_32 (fun H locs hw hS => ?_)
            refine lv_iinc (v := j + 1) (lv' := [(3, .int (j + 1)), (0, .ref (L (nm a b))), (1, .int k), (2, .int w)]) hx hb dX6_replace_33 hl (k := 0) rfl rfl (by decide) rfl (fun ls hl => ?_)
            refine lv_goto (tgt := 2) hx hb dX6_replace_36 (by decide) ?_
            exact (by omega : False).elim
    | succ n ih =>
      intro t j H locs ls f0 f1 f2 hw hS hl
      refine lv_iload_n hx hb dX6_replace_2 rfl (lv_at hl 0 rfl) ?_
      refine lv_bipush (v := 16) hx hb dX6_replace_3 (by decide) ?_
      refine lv_icmp_ge (tgt := 39) hx hb dX6_replace_5 (by decide) (fun c_5 => ?_) (fun c_5 => ?_)
      · skip
        have c_5n : t ≥ 16 := ngeT (a := t) (b := 16) f1 rfl (by omega) (by omega) c_5
        have c_5m : ¬ t < 16 := by omega
        exact m_vret X hr hlk hw hS (Nat.le_of_ble_eq_true rfl) (Nat.le_of_ble_eq_true rfl) ⟨rfl, by rw [repl_all (h := h) (v := k) (w := w) (t := t) (n := 8 + d) (by omega) (by first | omega | (have := of_decide_eq_false (show decide (t < 8 + d) = false by assumption); omega))]⟩ dX6_replace_39
      · skip
        have c_5n : ¬ t ≥ 16 := ngeF (a := t) (b := 16) f1 rfl (by omega) (by omega) c_5
        have c_5m : t < 16 := by omega
        refine lv_aload_n hx hb dX6_replace_8 rfl (lv_at hl 1 rfl) ?_
        refine lv_iload_n hx hb dX6_replace_9 rfl (lv_at hl 0 rfl) ?_
        refine m_calli (m_runV (i := nm a b) (ci := 4) (As := [.int j]) (rest := []) X (k_X6_has Γ l L (sP x a b (p_repl h k w t, d)) a b j hp) v_X6_has ml_X6_29 hw hS (p_obj Γ L (c := sP x a b (p_repl h k w t, d)) hp) rfl rfl rfl hl.1 ⟨Nat.le_of_ble_eq_true rfl, Nat.le_of_ble_eq_true rfl⟩ (Nat.le_of_ble_eq_true rfl) ⟨Nat.le_of_ble_eq_true rfl, Nat.le_of_ble_eq_true rfl⟩ dX6_replace_10) hS (fun r_6 L1 M1 H locs hp_6 hw hS => ?_)
        obtain ⟨e0, e1, e2⟩ := hp_6
        rw [sP_dep, f1, has_nI (by omega) (by omega)] at e0
        subst e0; rw [e1, e2] at hw; clear e1 e2
        refine lv_if_eq (tgt := 39) hx hb dX6_replace_13 (by decide) (fun c_7 => ?_) (fun c_7 => ?_)
        · skip
          have c_7 := bI_f c_7
          exact m_vret X hr hlk hw hS (Nat.le_of_ble_eq_true rfl) (Nat.le_of_ble_eq_true rfl) ⟨rfl, by rw [repl_all (h := h) (v := k) (w := w) (t := t) (n := 8 + d) (by omega) (by first | omega | (have := of_decide_eq_false (show decide (t < 8 + d) = false by assumption); omega))]⟩ dX6_replace_39
        · skip
          have c_7 := bI_t c_7
          refine lv_aload_n hx hb dX6_replace_16 rfl (lv_at hl 1 rfl) ?_
          refine p_getk X hw hp fl_X6_9 rfl dX6_replace_17 ?_
          refine lv_iload_n hx hb dX6_replace_20 rfl (lv_at hl 0 rfl) ?_
          refine p_ald (n := t) X hw hp f1 (by omega) dX6_replace_21 ?_
          refine lv_iload_n hx hb dX6_replace_22 rfl (lv_at hl 2 rfl) ?_
          refine lv_icmp_ne (tgt := 33) hx hb dX6_replace_23 (by decide) (fun c_8 => ?_) (fun c_8 => ?_)
          · skip
            refine lv_iinc (v := j + 1) (lv' := [(3, .int (j + 1)), (0, .ref (L (nm a b))), (1, .int k), (2, .int w)]) hx hb dX6_replace_33 hl (k := 0) rfl rfl (by decide) rfl (fun ls hl => ?_)
            refine lv_goto (tgt := 2) hx hb dX6_replace_36 (by decide) ?_
            rw [repl_miss (by assumption)] at hw; exact ih (t + 1) _ _ _ ls (by omega) (nadd (a := t) (b := 1) f1 rfl) (by first | omega | (have := of_decide_eq_true (show decide (t < 8 + d) = true by assumption); omega)) hw hS (lv_sub hl [0, 1, 2, 3] rfl)
          · skip
            refine lv_aload_n hx hb dX6_replace_26 rfl (lv_at hl 1 rfl) ?_
            refine p_getk X hw hp fl_X6_9 rfl dX6_replace_27 ?_
            refine lv_iload_n hx hb dX6_replace_30 rfl (lv_at hl 0 rfl) ?_
            refine lv_iload_n hx hb dX6_replace_31 rfl (lv_at hl 3 rfl) ?_
            refine p_ast (n := t) (v := w) X hw hp hS f1 (by omega) dX6_replace_32 (fun H locs hw hS => ?_)
            refine lv_iinc (v := j + 1) (lv' := [(3, .int (j + 1)), (0, .ref (L (nm a b))), (1, .int k), (2, .int w)]) hx hb dX6_replace_33 hl (k := 0) rfl rfl (by decide) rfl (fun ls hl => ?_)
            refine lv_goto (tgt := 2) hx hb dX6_replace_36 (by decide) ?_
            rw [repl_hit (by assumption)] at hw; exact ih (t + 1) _ _ _ ls (by omega) (nadd (a := t) (b := 1) f1 rfl) (by first | omega | (have := of_decide_eq_true (show decide (t < 8 + d) = true by assumption); omega)) hw hS (lv_sub hl [0, 1, 2, 3] rfl)
  refine lv_iconst (v := 0) hx hb dX6_replace_0 (by decide) ?_
  refine lv_istore_n (lv' := [(3, .int 0), (0, .ref (L (nm a b))), (1, .int k), (2, .int w)]) hx hb dX6_replace_1 rfl hl (by decide) rfl (fun ls hl => ?_)
  exact KL 16 0 _ _ _ ls rfl rfl (by omega) (by rw [p_repl_0]; exact hw) hS (lv_sub hl [0, 1, 2, 3] rfl)
