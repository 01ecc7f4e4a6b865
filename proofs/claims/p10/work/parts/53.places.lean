theorem p_obj (Γ : mG) (L : mI → Nat) {c : CS} {a b : Nat} (h : pOK c a b) : mget (cM Γ L c) (nm a b) = some (oP L a b (c.1 a b 1)) := p_cell h _ _ _
theorem upd_lt {g : Nat → Int32} {t : Nat} (h : ∀ i, i < t → g i = 0) : ∀ i, i < t + 1 → upd g t 0 i = 0 := by
  intro i hi
  by_cases q : i = t
  · simp [upd, q]
  · simp only [upd, if_neg q]
    exact h i (by omega)
/-! THE CLASS'S PLACES: what its methods leave, by shape -/
theorem nar_b (t : Bool) : narrow .boolean (.int (bI t)) = .int (bI t) := by cases t <;> rfl
theorem fit_b (t : Bool) : fits .boolean (.int (bI t)) = true := by cases t <;> rfl
def mPv (Γ : mG) (L : mI → Nat) (x : CS) (a b : Nat) (L1 : mI → Nat) (M1 : mM) : Prop := ∃ q : PL, q.2 ≤ 8 ∧ L1 = L ∧ M1 = cM Γ L (sP x a b q)
def mPz (Γ : mG) (L : mI → Nat) (x : CS) (a b : Nat) (r : Int32) (L1 : mI → Nat) (M1 : mM) : Prop := (∃ t : Bool, r = bI t) ∧ mPv Γ L x a b L1 M1
def p_has (d k : Int32) : Bool := !decide (d < 0) && (!decide (k < 0) && decide (k < 8 + d))
theorem sP_dep {x : CS} {a b : Nat} {q : PL} : (sP x a b q).1 a b 1 = nI q.2 := by
  show up3 x.1 a b (upd (x.1 a b) 1 (nI q.2)) a b 1 = _
  rw [up3_self]
  simp [upd]
theorem tVs_tV {x : CS} {a b j : Nat} {g : Nat → Int32} {v : Int32} : tV (tVs x a b g) a b j v = tVs x a b (upd g j v) := by
  unfold tV tVs
  show (_, up3 (up3 x.2.1 a b g) a b (upd (up3 x.2.1 a b g a b) j v), _) = _
  rw [up3_up3, up3_self]
theorem tVs_id {x : CS} {a b : Nat} : tVs x a b (x.2.1 a b) = x := by
  unfold tVs
  rw [up3_id]
theorem sP_tSo {x : CS} {a b a' b' k : Nat} {q : PL} {v : Int32} (h : ¬ (a' = a ∧ b' = b)) : tS (sP x a b q) a' b' k v = sP (tS x a' b' k v) a b q := by
  unfold tS sP
  have e1 : up3 x.1 a b (upd (x.1 a b) 1 (nI q.2)) a' b' = x.1 a' b' := up3_ne h
  have e2 : up3 x.1 a' b' (upd (x.1 a' b') k v) a b = x.1 a b := up3_ne (fun z => h ⟨z.1.symm, z.2.symm⟩)
  show (up3 (up3 x.1 a b (upd (x.1 a b) 1 (nI q.2))) a' b' (upd (up3 x.1 a b (upd (x.1 a b) 1 (nI q.2)) a' b') k v), up3 x.2.1 a (b + 1) q.1, x.2.2) = (up3 (up3 x.1 a' b' (upd (x.1 a' b') k v)) a b (upd (up3 x.1 a' b' (upd (x.1 a' b') k v) a b) 1 (nI q.2)), up3 x.2.1 a (b + 1) q.1, x.2.2)
  rw [e1, e2]
  congr 1
  funext u w
  by_cases h1 : u = a ∧ w = b <;> by_cases h2 : u = a' ∧ w = b'
  · exact absurd ⟨h2.1.symm.trans h1.1, h2.2.symm.trans h1.2⟩ h
  · simp [up3, h1, h2]
    intro h3 h4
    exact absurd ⟨h3.symm, h4.symm⟩ h
  · simp [up3, h1, h2]
    intro h3 h4
    exact absurd ⟨h3, h4⟩ h
  · simp [up3, h1, h2]
theorem has_nat {d : Nat} {k : Int32} (hd : d ≤ 8) (h : p_has (nI d) k = true) : ∃ n, n < 8 + d ∧ k = nI n := by
  unfold p_has at h
  simp only [Bool.and_eq_true, Bool.not_eq_true', decide_eq_false_iff_not, decide_eq_true_iff] at h
  obtain ⟨-, h2, h3⟩ := h
  have e8 : (8 : Int32) + nI d = nI (8 + d) := nadd (a := 8) rfl rfl
  rw [e8, Int32.lt_iff_toInt_lt, nI_toInt (by omega)] at h3
  rw [Int32.lt_iff_toInt_lt] at h2
  have e0 : (0 : Int32).toInt = 0 := by decide
  obtain ⟨e, -⟩ := nat_of_toInt (a := k) (by omega)
  exact ⟨_, by omega, e⟩
theorem v_X6_has : mVm yX6_has cX6_has 2 (some .boolean) 1 := ⟨cd_X6_has, im_X6_has, se_X6_has, ini_X6, by decide, by decide, by decide +kernel⟩
set_option maxHeartbeats 4000000 in
set_option maxRecDepth 100000 in
theorem k_X6_has (Γ : mG) (l : Launch) (L : mI → Nat) (x : CS) (a b : Nat) (k : Int32) (hp : pOK x a b) : mMet Γ l yX6_has cX6_has 2 (some .boolean) { frames := 0, cells := 0, slots := 0, locals := 0 } [.ref (L (nm a b)), .int k] L (cM Γ L x) (mQi Γ (fun r L1 M1 => r = bI (p_has (x.1 a b 1) k) ∧ L1 = L ∧ M1 = cM Γ L x)) := by
  refine m_start (by decide) (Nat.le_of_ble_eq_true rfl) ?_
  intro p e s m args below meth c A ls X hr hlk hnm hw hS hl
  have hx := X.1.1
  have hb := X.1.2.1
  have hl : lv_has ls 2 [(0, .ref (L (nm a b))), (1, .int k)] := hl
  refine lv_aload_n hx hb dX6_has_0 rfl (lv_at hl 0 rfl) ?_
  refine q_getd X hw hp fl_X6_13 rfl dX6_has_1 ?_
  refine lv_if_lt (tgt := 26) hx hb dX6_has_4 (by decide) (fun c_1 => ?_) (fun c_1 => ?_)
  · skip
    refine lv_iconst (v := 0) hx hb dX6_has_26 (by decide) ?_
    exact m_zret (b := p_has (x.1 a b 1) k) X hr hlk hw hS (Nat.le_of_ble_eq_true rfl) (Nat.le_of_ble_eq_true rfl) (by clear hb hx hl hS hw hnm hlk hr X; first | rfl | (simp_all [bI, p_has]; done)) ⟨rfl, rfl, rfl⟩ dX6_has_27
  · skip
    refine lv_iload_n hx hb dX6_has_7 rfl (lv_at hl 1 rfl) ?_
    refine lv_if_lt (tgt := 26) hx hb dX6_has_8 (by decide) (fun c_2 => ?_) (fun c_2 => ?_)
    · skip
      refine lv_iconst (v := 0) hx hb dX6_has_26 (by decide) ?_
      exact m_zret (b := p_has (x.1 a b 1) k) X hr hlk hw hS (Nat.le_of_ble_eq_true rfl) (Nat.le_of_ble_eq_true rfl) (by clear hb hx hl hS hw hnm hlk hr X; first | rfl | (simp_all [bI, p_has]; done)) ⟨rfl, rfl, rfl⟩ dX6_has_27
    · skip
      refine lv_iload_n hx hb dX6_has_11 rfl (lv_at hl 1 rfl) ?_
      refine lv_bipush (v := 8) hx hb dX6_has_12 (by decide) ?_
      refine lv_aload_n hx hb dX6_has_14 rfl (lv_at hl 0 rfl) ?_
      refine q_getd X hw hp fl_X6_13 rfl dX6_has_15 ?_
      refine lv_iadd hx hb dX6_has_18 ?_
      refine lv_icmp_ge (tgt := 26) hx hb dX6_has_19 (by decide) (fun c_3 => ?_) (fun c_3 => ?_)
      · skip
        refine lv_iconst (v := 0) hx hb dX6_has_26 (by decide) ?_
        exact m_zret (b := p_has (x.1 a b 1) k) X hr hlk hw hS (Nat.le_of_ble_eq_true rfl) (Nat.le_of_ble_eq_true rfl) (by clear hb hx hl hS hw hnm hlk hr X; first | rfl | (simp_all [bI, p_has]; done)) ⟨rfl, rfl, rfl⟩ dX6_has_27
      · skip
        refine lv_iconst (v := 1) hx hb dX6_has_22 (by decide) ?_
        refine lv_goto (tgt := 27) hx hb dX6_has_23 (by decide) ?_
        exact m_zret (b := p_has (x.1 a b 1) k) X hr hlk hw hS (Nat.le_of_ble_eq_true rfl) (Nat.le_of_ble_eq_true rfl) (by clear hb hx hl hS hw hnm hlk hr X; first | rfl | (simp_all [bI, p_has]; done)) ⟨rfl, rfl, rfl⟩ dX6_has_27
theorem v_X6_clear : mVm yX6_clear cX6_clear 3 none 1 := ⟨cd_X6_clear, im_X6_clear, se_X6_clear, ini_X6, by decide, by decide, by decide +kernel⟩
set_option maxHeartbeats 4000000 in
set_option maxRecDepth 100000 in
theorem k_X6_clear (Γ : mG) (l : Launch) (L : mI → Nat) (x : CS) (a b : Nat) (v : Int32) (hp : pOK x a b) : mMet Γ l yX6_clear cX6_clear 3 none { frames := 0, cells := 0, slots := 0, locals := 0 } [.ref (L (nm a b)), .int v] L (cM Γ L x) (mQv Γ (fun L1 M1 => ∃ g : Nat → Int32, (∀ i, i < 16 → g i = 0) ∧ L1 = L ∧ M1 = cM Γ L (tS (tVs x a (b + 1) g) a b 1 v))) := by
  refine m_start (by decide) (Nat.le_of_ble_eq_true rfl) ?_
  intro p e s m args below meth c A ls X hr hlk hnm hw hS hl
  have hx := X.1.1
  have hb := X.1.2.1
  have hl : lv_has ls 3 [(0, .ref (L (nm a b))), (1, .int v)] := hl
  have KL : ∀ (n : Nat) (t : Nat) (j : Int32) (g : Nat → Int32) (H : Heap) (locs : List Loc) (ls : Array Slot), t + n = 16 → j = nI t → (∀ i, i < t → g i = 0) → mW Γ.1 vwCl A L (cM Γ L (tVs x a (b + 1) g)) H → va_S A s.heap H locs → lv_has ls 3 [(2, .int j), (0, .ref (L (nm a b))), (1, .int v)] → W p l e { frames := 0, cells := 0, slots := 0, locals := 0 } s m args below meth c H locs 0 0 (MQ below (mQv Γ (fun L1 M1 => ∃ g : Nat → Int32, (∀ i, i < 16 → g i = 0) ∧ L1 = L ∧ M1 = cM Γ L (tS (tVs x a (b + 1) g) a b 1 v)) A) args s 0 0 A) (F0 m 2 ls []) := by
    intro n
    induction n with
    | zero =>
      intro t j g H locs ls f0 f1 f2 hw hS hl
      refine lv_iload_n hx hb dX6_clear_2 rfl (lv_at hl 0 rfl) ?_
      refine lv_bipush (v := 16) hx hb dX6_clear_3 (by decide) ?_
      refine lv_icmp_ge (tgt := 21) hx hb dX6_clear_5 (by decide) (fun c_1 => ?_) (fun c_1 => ?_)
      · skip
        have c_1n : t ≥ 16 := ngeT (a := t) (b := 16) f1 rfl (by omega) (by omega) c_1
        have c_1m : ¬ t < 16 := by omega
        refine lv_aload_n hx hb dX6_clear_21 rfl (lv_at hl 1 rfl) ?_
        refine lv_iload_n hx hb dX6_clear_22 rfl (lv_at hl 2 rfl) ?_
        refine q_putd X hw hp hS fl_X6_13 rfl dX6_clear_23 (fun H locs hw hS => ?_)
        exact m_vret X hr hlk hw hS (Nat.le_of_ble_eq_true rfl) (Nat.le_of_ble_eq_true rfl) ⟨g, fun i hi => f2 i (by omega), rfl, rfl⟩ dX6_clear_26
      · skip
        have c_1n : ¬ t ≥ 16 := ngeF (a := t) (b := 16) f1 rfl (by omega) (by omega) c_1
        have c_1m : t < 16 := by omega
        refine lv_aload_n hx hb dX6_clear_8 rfl (lv_at hl 1 rfl) ?_
        refine q_getk X hw hp fl_X6_9 rfl dX6_clear_9 ?_
        refine lv_iload_n hx hb dX6_clear_12 rfl (lv_at hl 0 rfl) ?_
        refine lv_iconst (v := 0) hx hb dX6_clear_13 (by decide) ?_
        refine q_ast (n := t) (v := 0) X hw hp hS f1 (by omega) dX6_clear_14 (fun H locs hw hS => ?_)
        refine lv_iinc (v := j + 1) (lv' := [(2, .int (j + 1)), (0, .ref (L (nm a b))), (1, .int v)]) hx hb dX6_clear_15 hl (k := 0) rfl rfl (by decide) rfl (fun ls hl => ?_)
        refine lv_goto (tgt := 2) hx hb dX6_clear_18 (by decide) ?_
        exact (by omega : False).elim
    | succ n ih =>
      intro t j g H locs ls f0 f1 f2 hw hS hl
      refine lv_iload_n hx hb dX6_clear_2 rfl (lv_at hl 0 rfl) ?_
      refine lv_bipush (v := 16) hx hb dX6_clear_3 (by decide) ?_
      refine lv_icmp_ge (tgt := 21) hx hb dX6_clear_5 (by decide) (fun c_2 => ?_) (fun c_2 => ?_)
      · skip
        have c_2n : t ≥ 16 := ngeT (a := t) (b := 16) f1 rfl (by omega) (by omega) c_2
        have c_2m : ¬ t < 16 := by omega
        refine lv_aload_n hx hb dX6_clear_21 rfl (lv_at hl 1 rfl) ?_
        refine lv_iload_n hx hb dX6_clear_22 rfl (lv_at hl 2 rfl) ?_
        refine q_putd X hw hp hS fl_X6_13 rfl dX6_clear_23 (fun H locs hw hS => ?_)
        exact m_vret X hr hlk hw hS (Nat.le_of_ble_eq_true rfl) (Nat.le_of_ble_eq_true rfl) ⟨g, fun i hi => f2 i (by omega), rfl, rfl⟩ dX6_clear_26
      · skip
        have c_2n : ¬ t ≥ 16 := ngeF (a := t) (b := 16) f1 rfl (by omega) (by omega) c_2
        have c_2m : t < 16 := by omega
        refine lv_aload_n hx hb dX6_clear_8 rfl (lv_at hl 1 rfl) ?_
        refine q_getk X hw hp fl_X6_9 rfl dX6_clear_9 ?_
        refine lv_iload_n hx hb dX6_clear_12 rfl (lv_at hl 0 rfl) ?_
        refine lv_iconst (v := 0) hx hb dX6_clear_13 (by decide) ?_
        refine q_ast (n := t) (v := 0) X hw hp hS f1 (by omega) dX6_clear_14 (fun H locs hw hS => ?_)
        refine lv_iinc (v := j + 1) (lv' := [(2, .int (j + 1)), (0, .ref (L (nm a b))), (1, .int v)]) hx hb dX6_clear_15 hl (k := 0) rfl rfl (by decide) rfl (fun ls hl => ?_)
        refine lv_goto (tgt := 2) hx hb dX6_clear_18 (by decide) ?_
        rw [tVs_tV] at hw; exact ih (t + 1) _ _ _ _ ls (by omega) (nadd (a := t) (b := 1) f1 rfl) (upd_lt f2) hw hS hl
  refine lv_iconst (v := 0) hx hb dX6_clear_0 (by decide) ?_
  refine lv_istore_n (lv' := [(2, .int 0), (0, .ref (L (nm a b))), (1, .int v)]) hx hb dX6_clear_1 rfl hl (by decide) rfl (fun ls hl => ?_)
  exact KL 16 0 _ (x.2.1 a (b + 1)) _ _ ls rfl rfl (fun i hi => absurd hi (Nat.not_lt_zero i)) (by rw [tVs_id]; exact hw) hS (lv_sub hl [0, 1, 2] rfl)
theorem v_X6_begin : mVm yX6_begin cX6_begin 3 none 1 := ⟨cd_X6_begin, im_X6_begin, se_X6_begin, ini_X6, by decide, by decide, by decide +kernel⟩
set_option maxHeartbeats 4000000 in
set_option maxRecDepth 100000 in
theorem k_X6_begin (Γ : mG) (l : Launch) (L : mI → Nat) (x : CS) (a b : Nat) (v : Int32) (hp : pOK x a b) : mMet Γ l yX6_begin cX6_begin 3 none { frames := 1, cells := 0, slots := 0, locals := 22 } [.ref (L (nm a b)), .int v] L (cM Γ L x) (mQv Γ (fun L1 M1 => ∃ g : Nat → Int32, L1 = L ∧ M1 = cM Γ L (sP x a b (g, 0)))) := by
  refine m_start (by decide) (Nat.le_of_ble_eq_true rfl) ?_
  intro p e s m args below meth c A ls X hr hlk hnm hw hS hl
  have hx := X.1.1
  have hb := X.1.2.1
  have hl : lv_has ls 3 [(0, .ref (L (nm a b))), (1, .int v)] := hl
  have KL : ∀ (n : Nat) (t : Nat) (j : Int32) (g : Nat → Int32) (H : Heap) (locs : List Loc) (ls : Array Slot), t + n = 8 → j = nI t → mW Γ.1 vwCl A L (cM Γ L (sP x a b (g, 0))) H → va_S A s.heap H locs → lv_has ls 3 [(2, .int j), (0, .ref (L (nm a b))), (1, .int v)] → W p l e { frames := 1, cells := 0, slots := 0, locals := 22 } s m args below meth c H locs 0 0 (MQ below (mQv Γ (fun L1 M1 => ∃ g : Nat → Int32, L1 = L ∧ M1 = cM Γ L (sP x a b (g, 0))) A) args s 0 0 A) (F0 m 7 ls []) := by
    intro n
    induction n with
    | zero =>
      intro t j g H locs ls f0 f1 hw hS hl
      refine lv_iload_n hx hb dX6_begin_7 rfl (lv_at hl 0 rfl) ?_
      refine lv_iload_n hx hb dX6_begin_8 rfl (lv_at hl 2 rfl) ?_
      refine lv_icmp_ge (tgt := 31) hx hb dX6_begin_9 (by decide) (fun c_1 => ?_) (fun c_1 => ?_)
      · skip
        exact m_vret X hr hlk hw hS (Nat.le_of_ble_eq_true rfl) (Nat.le_of_ble_eq_true rfl) ⟨_, rfl, rfl⟩ dX6_begin_31
      · skip
        refine lv_iload_n hx hb dX6_begin_12 rfl (lv_at hl 0 rfl) ?_
        refine lv_bipush (v := 8) hx hb dX6_begin_13 (by decide) ?_
        refine lv_icmp_ge (tgt := 31) hx hb dX6_begin_15 (by decide) (fun c_2 => ?_) (fun c_2 => ?_)
        · skip
          have c_2n : t ≥ 8 := ngeT (a := t) (b := 8) f1 rfl (by omega) (by omega) c_2
          have c_2m : ¬ t < 8 := by omega
          exact m_vret X hr hlk hw hS (Nat.le_of_ble_eq_true rfl) (Nat.le_of_ble_eq_true rfl) ⟨_, rfl, rfl⟩ dX6_begin_31
        · skip
          have c_2n : ¬ t ≥ 8 := ngeF (a := t) (b := 8) f1 rfl (by omega) (by omega) c_2
          have c_2m : t < 8 := by omega
          refine lv_aload_n hx hb dX6_begin_18 rfl (lv_at hl 1 rfl) ?_
          refine p_getk X hw hp fl_X6_9 rfl dX6_begin_19 ?_
          refine lv_iload_n hx hb dX6_begin_22 rfl (lv_at hl 0 rfl) ?_
          refine lv_iconst (v := 1) hx hb dX6_begin_23 (by decide) ?_
          refine p_ast (n := t) (v := 1) X hw hp hS f1 (by omega) dX6_begin_24 (fun H locs hw hS => ?_)
          refine lv_iinc (v := j + 1) (lv' := [(2, .int (j + 1)), (0, .ref (L (nm a b))), (1, .int v)]) hx hb dX6_begin_25 hl (k := 0) rfl rfl (by decide) rfl (fun ls hl => ?_)
          refine lv_goto (tgt := 7) hx hb dX6_begin_28 (by decide) ?_
          exact (by omega : False).elim
    | succ n ih =>
      intro t j g H locs ls f0 f1 hw hS hl
      refine lv_iload_n hx hb dX6_begin_7 rfl (lv_at hl 0 rfl) ?_
      refine lv_iload_n hx hb dX6_begin_8 rfl (lv_at hl 2 rfl) ?_
      refine lv_icmp_ge (tgt := 31) hx hb dX6_begin_9 (by decide) (fun c_3 => ?_) (fun c_3 => ?_)
      · skip
        exact m_vret X hr hlk hw hS (Nat.le_of_ble_eq_true rfl) (Nat.le_of_ble_eq_true rfl) ⟨_, rfl, rfl⟩ dX6_begin_31
      · skip
        refine lv_iload_n hx hb dX6_begin_12 rfl (lv_at hl 0 rfl) ?_
        refine lv_bipush (v := 8) hx hb dX6_begin_13 (by decide) ?_
        refine lv_icmp_ge (tgt := 31) hx hb dX6_begin_15 (by decide) (fun c_4 => ?_) (fun c_4 => ?_)
        · skip
          have c_4n : t ≥ 8 := ngeT (a := t) (b := 8) f1 rfl (by omega) (by omega) c_4
          have c_4m : ¬ t < 8 := by omega
          exact m_vret X hr hlk hw hS (Nat.le_of_ble_eq_true rfl) (Nat.le_of_ble_eq_true rfl) ⟨_, rfl, rfl⟩ dX6_begin_31
        · skip
          have c_4n : ¬ t ≥ 8 := ngeF (a := t) (b := 8) f1 rfl (by omega) (by omega) c_4
          have c_4m : t < 8 := by omega
          refine lv_aload_n hx hb dX6_begin_18 rfl (lv_at hl 1 rfl) ?_
          refine p_getk X hw hp fl_X6_9 rfl dX6_begin_19 ?_
          refine lv_iload_n hx hb dX6_begin_22 rfl (lv_at hl 0 rfl) ?_
          refine lv_iconst (v := 1) hx hb dX6_begin_23 (by decide) ?_
          refine p_ast (n := t) (v := 1) X hw hp hS f1 (by omega) dX6_begin_24 (fun H locs hw hS => ?_)
          refine lv_iinc (v := j + 1) (lv' := [(2, .int (j + 1)), (0, .ref (L (nm a b))), (1, .int v)]) hx hb dX6_begin_25 hl (k := 0) rfl rfl (by decide) rfl (fun ls hl => ?_)
          refine lv_goto (tgt := 7) hx hb dX6_begin_28 (by decide) ?_
          exact ih (t + 1) _ _ _ _ ls (by omega) (nadd (a := t) (b := 1) f1 rfl) hw hS hl
  refine lv_aload_n hx hb dX6_begin_0 rfl (lv_at hl 0 rfl) ?_
  refine lv_iconst (v := 0) hx hb dX6_begin_1 (by decide) ?_
  refine m_callv (m_runV (i := nm a b) (ci := 4) (As := [.int 0]) (rest := []) X (k_X6_clear Γ l L x a b 0 hp) v_X6_clear ml_X6_19 hw hS (p_obj Γ L (c := x) hp) rfl rfl rfl hl.1 ⟨Nat.le_of_ble_eq_true rfl, Nat.le_of_ble_eq_true rfl⟩ (Nat.le_of_ble_eq_true rfl) ⟨Nat.le_of_ble_eq_true rfl, Nat.le_of_ble_eq_true rfl⟩ dX6_begin_2) hS (fun L1 M1 H locs hp_5 hw hS => ?_)
  obtain ⟨g_5, hg_5, e1, e2⟩ := hp_5
  rw [e1, e2] at hw; clear e1 e2
  have hw : mW Γ.1 vwCl A L (cM Γ L (sP x a b (g_5, 0))) H := hw
  refine lv_iconst (v := 0) hx hb dX6_begin_5 (by decide) ?_
  refine lv_istore_n (lv' := [(2, .int 0), (0, .ref (L (nm a b))), (1, .int v)]) hx hb dX6_begin_6 rfl hl (by decide) rfl (fun ls hl => ?_)
  exact KL 8 0 _ _ _ _ ls rfl rfl hw hS (lv_sub hl [0, 1, 2] rfl)
theorem v_X6_push : mVm yX6_push cX6_push 2 (some .boolean) 1 := ⟨cd_X6_push, im_X6_push, se_X6_push, ini_X6, by decide, by decide, by decide +kernel⟩
set_option maxHeartbeats 4000000 in
set_option maxRecDepth 100000 in
theorem k_X6_push (Γ : mG) (l : Launch) (L : mI → Nat) (x : CS) (a b : Nat) (h : Nat → Int32) (d : Nat) (k : Int32) (hp : pOK x a b) (hd : d ≤ 8) : mMet Γ l yX6_push cX6_push 2 (some .boolean) { frames := 0, cells := 0, slots := 0, locals := 0 } [.ref (L (nm a b)), .int k] L (cM Γ L (sP x a b (h, d))) (mQi Γ (mPz Γ L x a b)) := by
  refine m_start (by decide) (Nat.le_of_ble_eq_true rfl) ?_
  intro p e s m args below meth c A ls X hr hlk hnm hw hS hl
  have hx := X.1.1
  have hb := X.1.2.1
  have hl : lv_has ls 2 [(0, .ref (L (nm a b))), (1, .int k)] := hl
  refine lv_aload_n hx hb dX6_push_0 rfl (lv_at hl 0 rfl) ?_
  refine p_getd X hw hp fl_X6_13 rfl dX6_push_1 ?_
  refine lv_if_lt (tgt := 16) hx hb dX6_push_4 (by decide) (fun c_1 => ?_) (fun c_1 => ?_)
  · skip
    have c_1n : d < 0 := nltT (a := d) (b := 0) rfl rfl (by omega) (by omega) c_1
    have c_1m : ¬ 0 ≤ d := by omega
    refine lv_iconst (v := 0) hx hb dX6_push_16 (by decide) ?_
    exact m_zret (b := false) X hr hlk hw hS (Nat.le_of_ble_eq_true rfl) (Nat.le_of_ble_eq_true rfl) rfl ⟨⟨_, rfl⟩, (h, d), by show d ≤ 8; omega, rfl, rfl⟩ dX6_push_17
  · skip
    have c_1n : ¬ d < 0 := nltF (a := d) (b := 0) rfl rfl (by omega) (by omega) c_1
    have c_1m : 0 ≤ d := by omega
    refine lv_aload_n hx hb dX6_push_7 rfl (lv_at hl 0 rfl) ?_
    refine p_getd X hw hp fl_X6_13 rfl dX6_push_8 ?_
    refine lv_bipush (v := 8) hx hb dX6_push_11 (by decide) ?_
    refine lv_icmp_lt (tgt := 18) hx hb dX6_push_13 (by decide) (fun c_2 => ?_) (fun c_2 => ?_)
    · skip
      have c_2n : d < 8 := nltT (a := d) (b := 8) rfl rfl (by omega) (by omega) c_2
      have c_2m : ¬ 8 ≤ d := by omega
      refine lv_aload_n hx hb dX6_push_18 rfl (lv_at hl 0 rfl) ?_
      refine p_getk X hw hp fl_X6_9 rfl dX6_push_19 ?_
      refine lv_bipush (v := 8) hx hb dX6_push_22 (by decide) ?_
      refine lv_aload_n hx hb dX6_push_24 rfl (lv_at hl 0 rfl) ?_
      refine p_getd X hw hp fl_X6_13 rfl dX6_push_25 ?_
      refine lv_iadd hx hb dX6_push_28 ?_
      refine lv_iload_n hx hb dX6_push_29 rfl (lv_at hl 1 rfl) ?_
      refine p_ast (n := 8 + d) (v := k) X hw hp hS (nadd (a := 8) (b := d) rfl rfl) (by omega) dX6_push_30 (fun H locs hw hS => ?_)
      refine lv_aload_n hx hb dX6_push_31 rfl (lv_at hl 0 rfl) ?_
      refine lv_dup hx hb dX6_push_32 rfl ?_
      refine p_getd X hw hp fl_X6_13 rfl dX6_push_33 ?_
      refine lv_iconst (v := 1) hx hb dX6_push_36 (by decide) ?_
      refine lv_iadd hx hb dX6_push_37 ?_
      refine p_putd X hw hp hS (nadd (a := d) (b := 1) rfl rfl) fl_X6_13 rfl dX6_push_38 (fun H locs hw hS => ?_)
      refine lv_iconst (v := 1) hx hb dX6_push_41 (by decide) ?_
      exact m_zret (b := true) X hr hlk hw hS (Nat.le_of_ble_eq_true rfl) (Nat.le_of_ble_eq_true rfl) rfl ⟨⟨_, rfl⟩, (upd h (8 + d) k, d + 1), by show d + 1 ≤ 8; omega, rfl, rfl⟩ dX6_push_42
    · skip
      have c_2n : ¬ d < 8 := nltF (a := d) (b := 8) rfl rfl (by omega) (by omega) c_2
      have c_2m : 8 ≤ d := by omega
      refine lv_iconst (v := 0) hx hb dX6_push_16 (by decide) ?_
      exact m_zret (b := false) X hr hlk hw hS (Nat.le_of_ble_eq_true rfl) (Nat.le_of_ble_eq_true rfl) rfl ⟨⟨_, rfl⟩, (h, d), by show d ≤ 8; omega, rfl, rfl⟩ dX6_push_17
theorem v_X6_pushLong : mVm yX6_pushLong cX6_pushLong 1 (some .boolean) 0 := ⟨cd_X6_pushLong, im_X6_pushLong, se_X6_pushLong, ini_X6, by decide, by decide, by decide +kernel⟩
set_option maxHeartbeats 4000000 in
set_option maxRecDepth 100000 in
theorem k_X6_pushLong (Γ : mG) (l : Launch) (L : mI → Nat) (x : CS) (a b : Nat) (h : Nat → Int32) (d : Nat)  (hp : pOK x a b) (hd : d ≤ 8) : mMet Γ l yX6_pushLong cX6_pushLong 1 (some .boolean) { frames := 1, cells := 0, slots := 0, locals := 21 } [.ref (L (nm a b))] L (cM Γ L (sP x a b (h, d))) (mQi Γ (mPz Γ L x a b)) := by
  refine m_start (by decide) (Nat.le_of_ble_eq_true rfl) ?_
  intro p e s m args below meth c A ls X hr hlk hnm hw hS hl
  have hx := X.1.1
  have hb := X.1.2.1
  have hl : lv_has ls 1 [(0, .ref (L (nm a b)))] := hl
  refine lv_aload_n hx hb dX6_pushLong_0 rfl (lv_at hl 0 rfl) ?_
  refine lv_iconst (v := 2) hx hb dX6_pushLong_1 (by decide) ?_
  refine m_calli (m_runV (i := nm a b) (ci := 4) (As := [.int 2]) (rest := []) X (k_X6_push Γ l L x a b h d 2 hp (by omega)) v_X6_push ml_X6_37 hw hS (p_obj Γ L (c := sP x a b (h, d)) hp) rfl rfl rfl hl.1 ⟨Nat.le_of_ble_eq_true rfl, Nat.le_of_ble_eq_true rfl⟩ (Nat.le_of_ble_eq_true rfl) ⟨Nat.le_of_ble_eq_true rfl, Nat.le_of_ble_eq_true rfl⟩ dX6_pushLong_2) hS (fun r_1 L1 M1 H locs hp_1 hw hS => ?_)
  obtain ⟨⟨t_1, rfl⟩, ⟨h_1, d_1⟩, hd_1, e1, e2⟩ := hp_1
  have hd_1 : d_1 ≤ 8 := hd_1
  rw [e1, e2] at hw; clear e1 e2
  refine lv_if_eq (tgt := 20) hx hb dX6_pushLong_5 (by decide) (fun c_2 => ?_) (fun c_2 => ?_)
  · skip
    have c_2 := bI_f c_2
    refine lv_iconst (v := 0) hx hb dX6_pushLong_20 (by decide) ?_
    exact m_zret (b := false) X hr hlk hw hS (Nat.le_of_ble_eq_true rfl) (Nat.le_of_ble_eq_true rfl) rfl ⟨⟨_, rfl⟩, (h_1, d_1), by show d_1 ≤ 8; omega, rfl, rfl⟩ dX6_pushLong_21
  · skip
    have c_2 := bI_t c_2
    refine lv_aload_n hx hb dX6_pushLong_8 rfl (lv_at hl 0 rfl) ?_
    refine lv_iconst (v := 3) hx hb dX6_pushLong_9 (by decide) ?_
    refine m_calli (m_runV (i := nm a b) (ci := 4) (As := [.int 3]) (rest := []) X (k_X6_push Γ l L x a b h_1 d_1 3 hp (by omega)) v_X6_push ml_X6_37 hw hS (p_obj Γ L (c := sP x a b (h_1, d_1)) hp) rfl rfl rfl hl.1 ⟨Nat.le_of_ble_eq_true rfl, Nat.le_of_ble_eq_true rfl⟩ (Nat.le_of_ble_eq_true rfl) ⟨Nat.le_of_ble_eq_true rfl, Nat.le_of_ble_eq_true rfl⟩ dX6_pushLong_10) hS (fun r_3 L1 M1 H locs hp_3 hw hS => ?_)
    obtain ⟨⟨t_3, rfl⟩, ⟨h_3, d_3⟩, hd_3, e1, e2⟩ := hp_3
    have hd_3 : d_3 ≤ 8 := hd_3
    rw [e1, e2] at hw; clear e1 e2
    refine lv_if_eq (tgt := 20) hx hb dX6_pushLong_13 (by decide) (fun c_4 => ?_) (fun c_4 => ?_)
    · skip
      have c_4 := bI_f c_4
      refine lv_iconst (v := 0) hx hb dX6_pushLong_20 (by decide) ?_
      exact m_zret (b := false) X hr hlk hw hS (Nat.le_of_ble_eq_true rfl) (Nat.le_of_ble_eq_true rfl) rfl ⟨⟨_, rfl⟩, (h_3, d_3), by show d_3 ≤ 8; omega, rfl, rfl⟩ dX6_pushLong_21
    · skip
      have c_4 := bI_t c_4
      refine lv_iconst (v := 1) hx hb dX6_pushLong_16 (by decide) ?_
      refine lv_goto (tgt := 21) hx hb dX6_pushLong_17 (by decide) ?_
      exact m_zret (b := true) X hr hlk hw hS (Nat.le_of_ble_eq_true rfl) (Nat.le_of_ble_eq_true rfl) rfl ⟨⟨_, rfl⟩, (h_3, d_3), by show d_3 ≤ 8; omega, rfl, rfl⟩ dX6_pushLong_21
def q_top (h : Nat → Int32) (d : Nat) : Int32 := if 0 < d then h (7 + d) else 0
theorem v_X6_top : mVm yX6_top cX6_top 1 (some .int) 0 := ⟨cd_X6_top, im_X6_top, se_X6_top, ini_X6, by decide, by decide, by decide +kernel⟩
set_option maxHeartbeats 4000000 in
set_option maxRecDepth 100000 in
theorem k_X6_top (Γ : mG) (l : Launch) (L : mI → Nat) (x : CS) (a b : Nat) (h : Nat → Int32) (d : Nat)  (hp : pOK x a b) (hd : d ≤ 8) : mMet Γ l yX6_top cX6_top 1 (some .int) { frames := 0, cells := 0, slots := 0, locals := 0 } [.ref (L (nm a b))] L (cM Γ L (sP x a b (h, d))) (mQi Γ (fun r L1 M1 => r = q_top h d ∧ L1 = L ∧ M1 = cM Γ L (sP x a b (h, d)))) := by
  refine m_start (by decide) (Nat.le_of_ble_eq_true rfl) ?_
  intro p e s m args below meth c A ls X hr hlk hnm hw hS hl
  have hx := X.1.1
  have hb := X.1.2.1
  have hl : lv_has ls 1 [(0, .ref (L (nm a b)))] := hl
  refine lv_aload_n hx hb dX6_top_0 rfl (lv_at hl 0 rfl) ?_
  refine p_getd X hw hp fl_X6_13 rfl dX6_top_1 ?_
  refine lv_if_le (tgt := 33) hx hb dX6_top_4 (by decide) (fun c_1 => ?_) (fun c_1 => ?_)
  · skip
    have c_1n : d ≤ 0 := nleT (a := d) (b := 0) rfl rfl (by omega) (by omega) c_1
    have c_1m : ¬ 0 < d := by omega
    refine lv_iconst (v := 0) hx hb dX6_top_33 (by decide) ?_
    exact m_iret X hr hlk hw hS (Nat.le_of_ble_eq_true rfl) (Nat.le_of_ble_eq_true rfl) ⟨by clear hb hx hl hS hw hnm hlk hr X; unfold q_top; first | (rw [if_pos (by omega)]; congr 1; omega) | (rw [if_neg (by omega)]), rfl, rfl⟩ dX6_top_34
  · skip
    have c_1n : ¬ d ≤ 0 := nleF (a := d) (b := 0) rfl rfl (by omega) (by omega) c_1
    have c_1m : 0 < d := by omega
    refine lv_aload_n hx hb dX6_top_7 rfl (lv_at hl 0 rfl) ?_
    refine p_getd X hw hp fl_X6_13 rfl dX6_top_8 ?_
    refine lv_bipush (v := 8) hx hb dX6_top_11 (by decide) ?_
    refine lv_icmp_gt (tgt := 33) hx hb dX6_top_13 (by decide) (fun c_2 => ?_) (fun c_2 => ?_)
    · skip
      have c_2n : d > 8 := ngtT (a := d) (b := 8) rfl rfl (by omega) (by omega) c_2
      have c_2m : ¬ d ≤ 8 := by omega
      refine lv_iconst (v := 0) hx hb dX6_top_33 (by decide) ?_
      exact m_iret X hr hlk hw hS (Nat.le_of_ble_eq_true rfl) (Nat.le_of_ble_eq_true rfl) ⟨by clear hb hx hl hS hw hnm hlk hr X; unfold q_top; first | (rw [if_pos (by omega)]; congr 1; omega) | (rw [if_neg (by omega)]), rfl, rfl⟩ dX6_top_34
    · skip
      have c_2n : ¬ d > 8 := ngtF (a := d) (b := 8) rfl rfl (by omega) (by omega) c_2
      have c_2m : d ≤ 8 := by omega
      refine lv_aload_n hx hb dX6_top_16 rfl (lv_at hl 0 rfl) ?_
      refine p_getk X hw hp fl_X6_9 rfl dX6_top_17 ?_
      refine lv_bipush (v := 8) hx hb dX6_top_20 (by decide) ?_
      refine lv_aload_n hx hb dX6_top_22 rfl (lv_at hl 0 rfl) ?_
      refine p_getd X hw hp fl_X6_13 rfl dX6_top_23 ?_
      refine lv_iadd hx hb dX6_top_26 ?_
      refine lv_iconst (v := 1) hx hb dX6_top_27 (by decide) ?_
      refine lv_isub hx hb dX6_top_28 ?_
      refine p_ald (n := (8 + d) - 1) X hw hp (nsub (a := 8 + d) (b := 1) (by omega) (nadd (a := 8) (b := d) rfl rfl) rfl) (by omega) dX6_top_29 ?_
      refine lv_goto (tgt := 34) hx hb dX6_top_30 (by decide) ?_
      exact m_iret X hr hlk hw hS (Nat.le_of_ble_eq_true rfl) (Nat.le_of_ble_eq_true rfl) ⟨by clear hb hx hl hS hw hnm hlk hr X; unfold q_top; first | (rw [if_pos (by omega)]; congr 1; omega) | (rw [if_neg (by omega)]), rfl, rfl⟩ dX6_top_34
theorem pop_pos {h : Nat → Int32} {d : Nat} {k : Int32} (hk : k_goes 0 k = false) (c : k_goes (q_top h d) k = true) : 0 < d := by
  by_cases q : 0 < d
  · exact q
  · unfold q_top at c
    rw [if_neg q, hk] at c
    cases c
theorem one_pos {h : Nat → Int32} {d : Nat} (c : k_one (q_top h d) = true) : 0 < d := by
  by_cases q : 0 < d
  · exact q
  · unfold q_top at c
    rw [if_neg q] at c
    exact absurd c (by decide)
theorem row_pos {h : Nat → Int32} {d : Nat} (c : k_row (q_top h d) = true) : 0 < d := by
  by_cases q : 0 < d
  · exact q
  · unfold q_top at c
    rw [if_neg q] at c
    exact absurd c (by decide)
theorem v_X6_pop : mVm yX6_pop cX6_pop 2 (some .boolean) 1 := ⟨cd_X6_pop, im_X6_pop, se_X6_pop, ini_X6, by decide, by decide, by decide +kernel⟩
set_option maxHeartbeats 4000000 in
set_option maxRecDepth 100000 in
theorem k_X6_pop (Γ : mG) (l : Launch) (L : mI → Nat) (x : CS) (a b : Nat) (h : Nat → Int32) (d : Nat) (k : Int32) (hp : pOK x a b) (hd : d ≤ 8) (hk : k_goes 0 k = false) : mMet Γ l yX6_pop cX6_pop 2 (some .boolean) { frames := 2, cells := 0, slots := 0, locals := 42 } [.ref (L (nm a b)), .int k] L (cM Γ L (sP x a b (h, d))) (mQi Γ (mPz Γ L x a b)) := by
  refine m_start (by decide) (Nat.le_of_ble_eq_true rfl) ?_
  intro p e s m args below meth c A ls X hr hlk hnm hw hS hl
  have hx := X.1.1
  have hb := X.1.2.1
  have hl : lv_has ls 2 [(0, .ref (L (nm a b))), (1, .int k)] := hl
  refine lv_aload_n hx hb dX6_pop_0 rfl (lv_at hl 0 rfl) ?_
  refine m_calli (m_runV (i := nm a b) (ci := 4) (As := []) (rest := []) X (k_X6_top Γ l L x a b h d  hp (by omega)) v_X6_top ml_X6_48 hw hS (p_obj Γ L (c := sP x a b (h, d)) hp) rfl rfl rfl hl.1 ⟨Nat.le_of_ble_eq_true rfl, Nat.le_of_ble_eq_true rfl⟩ (Nat.le_of_ble_eq_true rfl) ⟨Nat.le_of_ble_eq_true rfl, Nat.le_of_ble_eq_true rfl⟩ dX6_pop_1) hS (fun r_1 L1 M1 H locs hp_1 hw hS => ?_)
  obtain ⟨rfl, e1, e2⟩ := hp_1
  rw [e1, e2] at hw; clear e1 e2
  refine lv_iload_n hx hb dX6_pop_4 rfl (lv_at hl 1 rfl) ?_
  refine m_calli (m_runS (As := [.int (q_top h d), .int k]) (rest := []) X (k_X3_goesTo Γ l L (cM Γ L (sP x a b (h, d))) (q_top h d) k) s_X3_goesTo ml_X6_40 hw hS rfl hl.1 ⟨Nat.le_of_ble_eq_true rfl, Nat.le_of_ble_eq_true rfl⟩ (Nat.le_of_ble_eq_true rfl) ⟨Nat.le_of_ble_eq_true rfl, Nat.le_of_ble_eq_true rfl⟩ dX6_pop_5) hS (fun r_2 L1 M1 H locs hp_2 hw hS => ?_)
  obtain ⟨rfl, e1, e2⟩ := hp_2
  rw [e1, e2] at hw; clear e1 e2
  refine lv_if_ne (tgt := 13) hx hb dX6_pop_8 (by decide) (fun c_3 => ?_) (fun c_3 => ?_)
  · skip
    have c_3 := bI_t c_3
    have hpos : 0 < d := pop_pos hk c_3
    refine lv_aload_n hx hb dX6_pop_13 rfl (lv_at hl 0 rfl) ?_
    refine lv_dup hx hb dX6_pop_14 rfl ?_
    refine p_getd X hw hp fl_X6_13 rfl dX6_pop_15 ?_
    refine lv_iconst (v := 1) hx hb dX6_pop_18 (by decide) ?_
    refine lv_isub hx hb dX6_pop_19 ?_
    refine p_putd X hw hp hS (nsub (a := d) (b := 1) (by omega) rfl rfl) fl_X6_13 rfl dX6_pop_20 (fun H locs hw hS => ?_)
    refine lv_iconst (v := 1) hx hb dX6_pop_23 (by decide) ?_
    exact m_zret (b := true) X hr hlk hw hS (Nat.le_of_ble_eq_true rfl) (Nat.le_of_ble_eq_true rfl) rfl ⟨⟨_, rfl⟩, (h, d - 1), by show d - 1 ≤ 8; omega, rfl, rfl⟩ dX6_pop_24
  · skip
    have c_3 := bI_f c_3
    refine lv_iconst (v := 0) hx hb dX6_pop_11 (by decide) ?_
    exact m_zret (b := false) X hr hlk hw hS (Nat.le_of_ble_eq_true rfl) (Nat.le_of_ble_eq_true rfl) rfl ⟨⟨_, rfl⟩, (h, d), by show d ≤ 8; omega, rfl, rfl⟩ dX6_pop_12
theorem v_X6_popLong : mVm yX6_popLong cX6_popLong 2 (some .boolean) 0 := ⟨cd_X6_popLong, im_X6_popLong, se_X6_popLong, ini_X6, by decide, by decide, by decide +kernel⟩
set_option maxHeartbeats 4000000 in
set_option maxRecDepth 100000 in
theorem k_X6_popLong (Γ : mG) (l : Launch) (L : mI → Nat) (x : CS) (a b : Nat) (h : Nat → Int32) (d : Nat)  (hp : pOK x a b) (hd : d ≤ 8) : mMet Γ l yX6_popLong cX6_popLong 2 (some .boolean) { frames := 0, cells := 0, slots := 0, locals := 0 } [.ref (L (nm a b))] L (cM Γ L (sP x a b (h, d))) (mQi Γ (mPz Γ L x a b)) := by
  refine m_start (by decide) (Nat.le_of_ble_eq_true rfl) ?_
  intro p e s m args below meth c A ls X hr hlk hnm hw hS hl
  have hx := X.1.1
  have hb := X.1.2.1
  have hl : lv_has ls 2 [(0, .ref (L (nm a b)))] := hl
  refine lv_aload_n hx hb dX6_popLong_0 rfl (lv_at hl 0 rfl) ?_
  refine p_getd X hw hp fl_X6_13 rfl dX6_popLong_1 ?_
  refine lv_iconst (v := 2) hx hb dX6_popLong_4 (by decide) ?_
  refine lv_icmp_lt (tgt := 17) hx hb dX6_popLong_5 (by decide) (fun c_1 => ?_) (fun c_1 => ?_)
  · skip
    have c_1n : d < 2 := nltT (a := d) (b := 2) rfl rfl (by omega) (by omega) c_1
    have c_1m : ¬ 2 ≤ d := by omega
    refine lv_iconst (v := 0) hx hb dX6_popLong_17 (by decide) ?_
    exact m_zret (b := false) X hr hlk hw hS (Nat.le_of_ble_eq_true rfl) (Nat.le_of_ble_eq_true rfl) rfl ⟨⟨_, rfl⟩, (h, d), by show d ≤ 8; omega, rfl, rfl⟩ dX6_popLong_18
  · skip
    have c_1n : ¬ d < 2 := nltF (a := d) (b := 2) rfl rfl (by omega) (by omega) c_1
    have c_1m : 2 ≤ d := by omega
    refine lv_aload_n hx hb dX6_popLong_8 rfl (lv_at hl 0 rfl) ?_
    refine p_getd X hw hp fl_X6_13 rfl dX6_popLong_9 ?_
    refine lv_bipush (v := 8) hx hb dX6_popLong_12 (by decide) ?_
    refine lv_icmp_le (tgt := 19) hx hb dX6_popLong_14 (by decide) (fun c_2 => ?_) (fun c_2 => ?_)
    · skip
      have c_2n : d ≤ 8 := nleT (a := d) (b := 8) rfl rfl (by omega) (by omega) c_2
      have c_2m : ¬ 8 < d := by omega
      refine lv_bipush (v := 8) hx hb dX6_popLong_19 (by decide) ?_
      refine lv_aload_n hx hb dX6_popLong_21 rfl (lv_at hl 0 rfl) ?_
      refine p_getd X hw hp fl_X6_13 rfl dX6_popLong_22 ?_
      refine lv_iadd hx hb dX6_popLong_25 ?_
      refine lv_iconst (v := 2) hx hb dX6_popLong_26 (by decide) ?_
      refine lv_isub hx hb dX6_popLong_27 ?_
      refine lv_istore_n (lv' := [(1, .int ((8 + (nI d)) - 2)), (0, .ref (L (nm a b)))]) hx hb dX6_popLong_28 rfl hl (by decide) rfl (fun ls hl => ?_)
      refine lv_aload_n hx hb dX6_popLong_29 rfl (lv_at hl 1 rfl) ?_
      refine lv_dup hx hb dX6_popLong_30 rfl ?_
      refine p_getd X hw hp fl_X6_13 rfl dX6_popLong_31 ?_
      refine lv_iconst (v := 2) hx hb dX6_popLong_34 (by decide) ?_
      refine lv_isub hx hb dX6_popLong_35 ?_
      refine p_putd X hw hp hS (nsub (a := d) (b := 2) (by omega) rfl rfl) fl_X6_13 rfl dX6_popLong_36 (fun H locs hw hS => ?_)
      refine lv_aload_n hx hb dX6_popLong_39 rfl (lv_at hl 1 rfl) ?_
      refine p_getk X hw hp fl_X6_9 rfl dX6_popLong_40 ?_
      refine lv_iload_n hx hb dX6_popLong_43 rfl (lv_at hl 0 rfl) ?_
      refine p_ald (n := (8 + d) - 2) X hw hp (nsub (a := 8 + d) (b := 2) (by omega) (nadd (a := 8) (b := d) rfl rfl) rfl) (by omega) dX6_popLong_44 ?_
      refine lv_iconst (v := 2) hx hb dX6_popLong_45 (by decide) ?_
      refine lv_icmp_ne (tgt := 65) hx hb dX6_popLong_46 (by decide) (fun c_3 => ?_) (fun c_3 => ?_)
      · skip
        refine lv_iconst (v := 0) hx hb dX6_popLong_65 (by decide) ?_
        exact m_zret (b := false) X hr hlk hw hS (Nat.le_of_ble_eq_true rfl) (Nat.le_of_ble_eq_true rfl) rfl ⟨⟨_, rfl⟩, (h, d - 2), by show d - 2 ≤ 8; omega, rfl, rfl⟩ dX6_popLong_66
      · skip
        refine lv_aload_n hx hb dX6_popLong_49 rfl (lv_at hl 1 rfl) ?_
        refine p_getk X hw hp fl_X6_9 rfl dX6_popLong_50 ?_
        refine lv_iload_n hx hb dX6_popLong_53 rfl (lv_at hl 0 rfl) ?_
        refine lv_iconst (v := 1) hx hb dX6_popLong_54 (by decide) ?_
        refine lv_iadd hx hb dX6_popLong_55 ?_
        refine p_ald (n := ((8 + d) - 2) + 1) X hw hp (nadd (a := (8 + d) - 2) (b := 1) (nsub (a := 8 + d) (b := 2) (by omega) (nadd (a := 8) (b := d) rfl rfl) rfl) rfl) (by omega) dX6_popLong_56 ?_
        refine lv_iconst (v := 3) hx hb dX6_popLong_57 (by decide) ?_
        refine lv_icmp_ne (tgt := 65) hx hb dX6_popLong_58 (by decide) (fun c_4 => ?_) (fun c_4 => ?_)
        · skip
          refine lv_iconst (v := 0) hx hb dX6_popLong_65 (by decide) ?_
          exact m_zret (b := false) X hr hlk hw hS (Nat.le_of_ble_eq_true rfl) (Nat.le_of_ble_eq_true rfl) rfl ⟨⟨_, rfl⟩, (h, d - 2), by show d - 2 ≤ 8; omega, rfl, rfl⟩ dX6_popLong_66
        · skip
          refine lv_iconst (v := 1) hx hb dX6_popLong_61 (by decide) ?_
          refine lv_goto (tgt := 66) hx hb dX6_popLong_62 (by decide) ?_
          exact m_zret (b := true) X hr hlk hw hS (Nat.le_of_ble_eq_true rfl) (Nat.le_of_ble_eq_true rfl) rfl ⟨⟨_, rfl⟩, (h, d - 2), by show d - 2 ≤ 8; omega, rfl, rfl⟩ dX6_popLong_66
    · skip
      have c_2n : ¬ d ≤ 8 := nleF (a := d) (b := 8) rfl rfl (by omega) (by omega) c_2
      have c_2m : 8 < d := by omega
      refine lv_iconst (v := 0) hx hb dX6_popLong_17 (by decide) ?_
      exact m_zret (b := false) X hr hlk hw hS (Nat.le_of_ble_eq_true rfl) (Nat.le_of_ble_eq_true rfl) rfl ⟨⟨_, rfl⟩, (h, d), by show d ≤ 8; omega, rfl, rfl⟩ dX6_popLong_18
theorem v_X6_popOne : mVm yX6_popOne cX6_popOne 2 (some .int) 0 := ⟨cd_X6_popOne, im_X6_popOne, se_X6_popOne, ini_X6, by decide, by decide, by decide +kernel⟩
set_option maxHeartbeats 4000000 in
set_option maxRecDepth 100000 in
theorem k_X6_popOne (Γ : mG) (l : Launch) (L : mI → Nat) (x : CS) (a b : Nat) (h : Nat → Int32) (d : Nat)  (hp : pOK x a b) (hd : d ≤ 8) : mMet Γ l yX6_popOne cX6_popOne 2 (some .int) { frames := 1, cells := 0, slots := 0, locals := 20 } [.ref (L (nm a b))] L (cM Γ L (sP x a b (h, d))) (mQi Γ (fun _ => mPv Γ L x a b)) := by
  refine m_start (by decide) (Nat.le_of_ble_eq_true rfl) ?_
  intro p e s m args below meth c A ls X hr hlk hnm hw hS hl
  have hx := X.1.1
  have hb := X.1.2.1
  have hl : lv_has ls 2 [(0, .ref (L (nm a b)))] := hl
  refine lv_aload_n hx hb dX6_popOne_0 rfl (lv_at hl 0 rfl) ?_
  refine m_calli (m_runV (i := nm a b) (ci := 4) (As := []) (rest := []) X (k_X6_top Γ l L x a b h d  hp (by omega)) v_X6_top ml_X6_48 hw hS (p_obj Γ L (c := sP x a b (h, d)) hp) rfl rfl rfl hl.1 ⟨Nat.le_of_ble_eq_true rfl, Nat.le_of_ble_eq_true rfl⟩ (Nat.le_of_ble_eq_true rfl) ⟨Nat.le_of_ble_eq_true rfl, Nat.le_of_ble_eq_true rfl⟩ dX6_popOne_1) hS (fun r_1 L1 M1 H locs hp_1 hw hS => ?_)
  obtain ⟨rfl, e1, e2⟩ := hp_1
  rw [e1, e2] at hw; clear e1 e2
  refine lv_istore_n (lv' := [(1, .int (q_top h d)), (0, .ref (L (nm a b)))]) hx hb dX6_popOne_4 rfl hl (by decide) rfl (fun ls hl => ?_)
  refine lv_iload_n hx hb dX6_popOne_5 rfl (lv_at hl 0 rfl) ?_
  refine m_calli (m_runS (As := [.int (q_top h d)]) (rest := []) X (k_X3_isOnePlace Γ l L (cM Γ L (sP x a b (h, d))) (q_top h d)) s_X3_isOnePlace ml_X6_52 hw hS rfl hl.1 ⟨Nat.le_of_ble_eq_true rfl, Nat.le_of_ble_eq_true rfl⟩ (Nat.le_of_ble_eq_true rfl) ⟨Nat.le_of_ble_eq_true rfl, Nat.le_of_ble_eq_true rfl⟩ dX6_popOne_6) hS (fun r_2 L1 M1 H locs hp_2 hw hS => ?_)
  obtain ⟨rfl, e1, e2⟩ := hp_2
  rw [e1, e2] at hw; clear e1 e2
  refine lv_if_ne (tgt := 14) hx hb dX6_popOne_9 (by decide) (fun c_3 => ?_) (fun c_3 => ?_)
  · skip
    have c_3 := bI_t c_3
    have hpos : 0 < d := one_pos c_3
    refine lv_aload_n hx hb dX6_popOne_14 rfl (lv_at hl 1 rfl) ?_
    refine lv_dup hx hb dX6_popOne_15 rfl ?_
    refine p_getd X hw hp fl_X6_13 rfl dX6_popOne_16 ?_
    refine lv_iconst (v := 1) hx hb dX6_popOne_19 (by decide) ?_
    refine lv_isub hx hb dX6_popOne_20 ?_
    refine p_putd X hw hp hS (nsub (a := d) (b := 1) (by omega) rfl rfl) fl_X6_13 rfl dX6_popOne_21 (fun H locs hw hS => ?_)
    refine lv_iload_n hx hb dX6_popOne_24 rfl (lv_at hl 0 rfl) ?_
    exact m_iret X hr hlk hw hS (Nat.le_of_ble_eq_true rfl) (Nat.le_of_ble_eq_true rfl) ⟨(h, d - 1), by show d - 1 ≤ 8; omega, rfl, rfl⟩ dX6_popOne_25
  · skip
    have c_3 := bI_f c_3
    refine lv_iconst (v := 0) hx hb dX6_popOne_12 (by decide) ?_
    exact m_iret X hr hlk hw hS (Nat.le_of_ble_eq_true rfl) (Nat.le_of_ble_eq_true rfl) ⟨(h, d), by show d ≤ 8; omega, rfl, rfl⟩ dX6_popOne_13
theorem v_X6_popRow : mVm yX6_popRow cX6_popRow 2 (some .int) 0 := ⟨cd_X6_popRow, im_X6_popRow, se_X6_popRow, ini_X6, by decide, by decide, by decide +kernel⟩
set_option maxHeartbeats 4000000 in
set_option maxRecDepth 100000 in
theorem k_X6_popRow (Γ : mG) (l : Launch) (L : mI → Nat) (x : CS) (a b : Nat) (h : Nat → Int32) (d : Nat)  (hp : pOK x a b) (hd : d ≤ 8) : mMet Γ l yX6_popRow cX6_popRow 2 (some .int) { frames := 2, cells := 0, slots := 0, locals := 41 } [.ref (L (nm a b))] L (cM Γ L (sP x a b (h, d))) (mQi Γ (fun _ => mPv Γ L x a b)) := by
  refine m_start (by decide) (Nat.le_of_ble_eq_true rfl) ?_
  intro p e s m args below meth c A ls X hr hlk hnm hw hS hl
  have hx := X.1.1
  have hb := X.1.2.1
  have hl : lv_has ls 2 [(0, .ref (L (nm a b)))] := hl
  refine lv_aload_n hx hb dX6_popRow_0 rfl (lv_at hl 0 rfl) ?_
  refine m_calli (m_runV (i := nm a b) (ci := 4) (As := []) (rest := []) X (k_X6_top Γ l L x a b h d  hp (by omega)) v_X6_top ml_X6_48 hw hS (p_obj Γ L (c := sP x a b (h, d)) hp) rfl rfl rfl hl.1 ⟨Nat.le_of_ble_eq_true rfl, Nat.le_of_ble_eq_true rfl⟩ (Nat.le_of_ble_eq_true rfl) ⟨Nat.le_of_ble_eq_true rfl, Nat.le_of_ble_eq_true rfl⟩ dX6_popRow_1) hS (fun r_1 L1 M1 H locs hp_1 hw hS => ?_)
  obtain ⟨rfl, e1, e2⟩ := hp_1
  rw [e1, e2] at hw; clear e1 e2
  refine lv_istore_n (lv' := [(1, .int (q_top h d)), (0, .ref (L (nm a b)))]) hx hb dX6_popRow_4 rfl hl (by decide) rfl (fun ls hl => ?_)
  refine lv_iload_n hx hb dX6_popRow_5 rfl (lv_at hl 0 rfl) ?_
  refine m_calli (m_runS (As := [.int (q_top h d)]) (rest := []) X (k_X3_isRow Γ l L (cM Γ L (sP x a b (h, d))) (q_top h d)) s_X3_isRow ml_X6_55 hw hS rfl hl.1 ⟨Nat.le_of_ble_eq_true rfl, Nat.le_of_ble_eq_true rfl⟩ (Nat.le_of_ble_eq_true rfl) ⟨Nat.le_of_ble_eq_true rfl, Nat.le_of_ble_eq_true rfl⟩ dX6_popRow_6) hS (fun r_2 L1 M1 H locs hp_2 hw hS => ?_)
  obtain ⟨rfl, e1, e2⟩ := hp_2
  rw [e1, e2] at hw; clear e1 e2
  refine lv_if_ne (tgt := 17) hx hb dX6_popRow_9 (by decide) (fun c_3 => ?_) (fun c_3 => ?_)
  · skip
    have c_3 := bI_t c_3
    refine lv_aload_n hx hb dX6_popRow_17 rfl (lv_at hl 1 rfl) ?_
    refine m_calli (m_runV (i := nm a b) (ci := 4) (As := []) (rest := []) X (k_X6_popOne Γ l L x a b h d  hp (by omega)) v_X6_popOne ml_X6_58 hw hS (p_obj Γ L (c := sP x a b (h, d)) hp) rfl rfl rfl hl.1 ⟨Nat.le_of_ble_eq_true rfl, Nat.le_of_ble_eq_true rfl⟩ (Nat.le_of_ble_eq_true rfl) ⟨Nat.le_of_ble_eq_true rfl, Nat.le_of_ble_eq_true rfl⟩ dX6_popRow_18) hS (fun r_4 L1 M1 H locs hp_4 hw hS => ?_)
    obtain ⟨⟨h_4, d_4⟩, hd_4, e1, e2⟩ := hp_4
    have hd_4 : d_4 ≤ 8 := hd_4
    rw [e1, e2] at hw; clear e1 e2
    refine lv_goto (tgt := 25) hx hb dX6_popRow_21 (by decide) ?_
    exact m_iret X hr hlk hw hS (Nat.le_of_ble_eq_true rfl) (Nat.le_of_ble_eq_true rfl) ⟨(h_4, d_4), by show d_4 ≤ 8; omega, rfl, rfl⟩ dX6_popRow_25
  · skip
    have c_3 := bI_f c_3
    refine lv_iload_n hx hb dX6_popRow_12 rfl (lv_at hl 0 rfl) ?_
    refine lv_iconst (v := 4) hx hb dX6_popRow_13 (by decide) ?_
    refine lv_icmp_ne (tgt := 24) hx hb dX6_popRow_14 (by decide) (fun c_5 => ?_) (fun c_5 => ?_)
    · skip
      refine lv_iconst (v := 0) hx hb dX6_popRow_24 (by decide) ?_
      exact m_iret X hr hlk hw hS (Nat.le_of_ble_eq_true rfl) (Nat.le_of_ble_eq_true rfl) ⟨(h, d), by show d ≤ 8; omega, rfl, rfl⟩ dX6_popRow_25
    · skip
      refine lv_aload_n hx hb dX6_popRow_17 rfl (lv_at hl 1 rfl) ?_
      refine m_calli (m_runV (i := nm a b) (ci := 4) (As := []) (rest := []) X (k_X6_popOne Γ l L x a b h d  hp (by omega)) v_X6_popOne ml_X6_58 hw hS (p_obj Γ L (c := sP x a b (h, d)) hp) rfl rfl rfl hl.1 ⟨Nat.le_of_ble_eq_true rfl, Nat.le_of_ble_eq_true rfl⟩ (Nat.le_of_ble_eq_true rfl) ⟨Nat.le_of_ble_eq_true rfl, Nat.le_of_ble_eq_true rfl⟩ dX6_popRow_18) hS (fun r_6 L1 M1 H locs hp_6 hw hS => ?_)
      obtain ⟨⟨h_6, d_6⟩, hd_6, e1, e2⟩ := hp_6
      have hd_6 : d_6 ≤ 8 := hd_6
      rw [e1, e2] at hw; clear e1 e2
      refine lv_goto (tgt := 25) hx hb dX6_popRow_21 (by decide) ?_
      exact m_iret X hr hlk hw hS (Nat.le_of_ble_eq_true rfl) (Nat.le_of_ble_eq_true rfl) ⟨(h_6, d_6), by show d_6 ≤ 8; omega, rfl, rfl⟩ dX6_popRow_25
theorem nat_ltN {k : Int32} {n : Nat} (hn : n < 2 ^ 31) (h0 : ¬ k < 0) (h1 : k < nI n) : ∃ j, j < n ∧ k = nI j := by
  rw [Int32.lt_iff_toInt_lt, nI_toInt hn] at h1
  rw [Int32.lt_iff_toInt_lt] at h0
  have e0 : (0 : Int32).toInt = 0 := by decide
  obtain ⟨e, -⟩ := nat_of_toInt (a := k) (by omega)
  exact ⟨_, by omega, e⟩
theorem nat_lt8 {k : Int32} (h0 : ¬ k < 0) (h1 : k < 8) : ∃ j, j < 8 ∧ k = nI j := nat_ltN (by decide) h0 (h1 : k < nI 8)
theorem v_X6_write : mVm yX6_write cX6_write 5 none 2 := ⟨cd_X6_write, im_X6_write, se_X6_write, ini_X6, by decide, by decide, by decide +kernel⟩
set_option maxHeartbeats 4000000 in
set_option maxRecDepth 100000 in
theorem k_X6_write (Γ : mG) (l : Launch) (L : mI → Nat) (x : CS) (a b : Nat) (h : Nat → Int32) (d : Nat) (k : Int32) (w : Int32) (hp : pOK x a b) (hd : d ≤ 8) : mMet Γ l yX6_write cX6_write 5 none { frames := 0, cells := 0, slots := 0, locals := 0 } [.ref (L (nm a b)), .int k, .int w] L (cM Γ L (sP x a b (h, d))) (mQv Γ (mPv Γ L x a b)) := by
  refine m_start (by decide) (Nat.le_of_ble_eq_true rfl) ?_
  intro p e s m args below meth c A ls X hr hlk hnm hw hS hl
  have hx := X.1.1
  have hb := X.1.2.1
  have hl : lv_has ls 5 [(0, .ref (L (nm a b))), (1, .int k), (2, .int w)] := hl
  have K107 : ∀ (kn : Nat) (u v : Int32) (g : Nat → Int32) (H : Heap) (locs : List Loc) (ls : Array Slot), kn < 8 → k = nI kn → mW Γ.1 vwCl A L (cM Γ L (sP x a b (g, d))) H → va_S A s.heap H locs → lv_has ls 5 [(3, .int u), (4, .int v), (0, .ref (L (nm a b))), (1, .int k), (2, .int w)] → W p l e { frames := 0, cells := 0, slots := 0, locals := 0 } s m args below meth c H locs 0 0 (MQ below (mQv Γ (mPv Γ L x a b) A) args s 0 0 A) (F0 m 107 ls []) := by
    intro kn u v g H locs ls hkn ek hw hS hl
    refine lv_aload_n hx hb dX6_write_107 rfl (lv_at hl 2 rfl) ?_
    refine p_getk X hw hp fl_X6_9 rfl dX6_write_108 ?_
    refine lv_iload_n hx hb dX6_write_111 rfl (lv_at hl 3 rfl) ?_
    refine lv_iload_n hx hb dX6_write_112 rfl (lv_at hl 4 rfl) ?_
    refine p_ast (n := kn) (v := w) X hw hp hS ek (by omega) dX6_write_113 (fun H locs hw hS => ?_)
    exact m_vret X hr hlk hw hS (Nat.le_of_ble_eq_true rfl) (Nat.le_of_ble_eq_true rfl) ⟨(upd g kn w, d), by show d ≤ 8; omega, rfl, rfl⟩ dX6_write_114
  have K74 : ∀ (kn : Nat) (u v : Int32) (g : Nat → Int32) (H : Heap) (locs : List Loc) (ls : Array Slot), kn < 8 → k = nI kn → mW Γ.1 vwCl A L (cM Γ L (sP x a b (g, d))) H → va_S A s.heap H locs → lv_has ls 5 [(3, .int u), (4, .int v), (0, .ref (L (nm a b))), (1, .int k), (2, .int w)] → W p l e { frames := 0, cells := 0, slots := 0, locals := 0 } s m args below meth c H locs 0 0 (MQ below (mQv Γ (mPv Γ L x a b) A) args s 0 0 A) (F0 m 74 ls []) := by
    intro kn u v g H locs ls hkn ek hw hS hl
    refine lv_iload_n hx hb dX6_write_74 rfl (lv_at hl 3 rfl) ?_
    refine lv_iconst (v := 1) hx hb dX6_write_75 (by decide) ?_
    refine lv_iadd hx hb dX6_write_76 ?_
    refine lv_bipush (v := 8) hx hb dX6_write_77 (by decide) ?_
    refine lv_icmp_ge (tgt := 107) hx hb dX6_write_79 (by decide) (fun c_1 => ?_) (fun c_1 => ?_)
    · skip
      have c_1n : (kn + 1) ≥ 8 := ngeT (a := kn + 1) (b := 8) (nadd (a := kn) (b := 1) ek rfl) rfl (by omega) (by omega) c_1
      have c_1m : ¬ (kn + 1) < 8 := by omega
      exact K107 kn _ _ _ _ _ ls hkn ek hw hS (lv_sub hl [0, 1, 2, 3, 4] rfl)
    · skip
      have c_1n : ¬ (kn + 1) ≥ 8 := ngeF (a := kn + 1) (b := 8) (nadd (a := kn) (b := 1) ek rfl) rfl (by omega) (by omega) c_1
      have c_1m : (kn + 1) < 8 := by omega
      refine lv_iload_n hx hb dX6_write_82 rfl (lv_at hl 0 rfl) ?_
      refine lv_if_ne (tgt := 98) hx hb dX6_write_83 (by decide) (fun c_2 => ?_) (fun c_2 => ?_)
      · skip
        refine lv_aload_n hx hb dX6_write_98 rfl (lv_at hl 2 rfl) ?_
        refine p_getk X hw hp fl_X6_9 rfl dX6_write_99 ?_
        refine lv_iload_n hx hb dX6_write_102 rfl (lv_at hl 3 rfl) ?_
        refine lv_iconst (v := 1) hx hb dX6_write_103 (by decide) ?_
        refine lv_iadd hx hb dX6_write_104 ?_
        refine lv_iconst (v := 0) hx hb dX6_write_105 (by decide) ?_
        refine p_ast (n := kn + 1) (v := 0) X hw hp hS (nadd (a := kn) (b := 1) ek rfl) (by omega) dX6_write_106 (fun H locs hw hS => ?_)
        exact K107 kn _ _ _ _ _ ls hkn ek hw hS (lv_sub hl [0, 1, 2, 3, 4] rfl)
      · skip
        refine lv_aload_n hx hb dX6_write_86 rfl (lv_at hl 2 rfl) ?_
        refine p_getk X hw hp fl_X6_9 rfl dX6_write_87 ?_
        refine lv_iload_n hx hb dX6_write_90 rfl (lv_at hl 3 rfl) ?_
        refine lv_iconst (v := 1) hx hb dX6_write_91 (by decide) ?_
        refine lv_iadd hx hb dX6_write_92 ?_
        refine p_ald (n := kn + 1) X hw hp (nadd (a := kn) (b := 1) ek rfl) (by omega) dX6_write_93 ?_
        refine lv_iconst (v := 3) hx hb dX6_write_94 (by decide) ?_
        refine lv_icmp_ne (tgt := 107) hx hb dX6_write_95 (by decide) (fun c_3 => ?_) (fun c_3 => ?_)
        · skip
          exact K107 kn _ _ _ _ _ ls hkn ek hw hS (lv_sub hl [0, 1, 2, 3, 4] rfl)
        · skip
          refine lv_aload_n hx hb dX6_write_98 rfl (lv_at hl 2 rfl) ?_
          refine p_getk X hw hp fl_X6_9 rfl dX6_write_99 ?_
          refine lv_iload_n hx hb dX6_write_102 rfl (lv_at hl 3 rfl) ?_
          refine lv_iconst (v := 1) hx hb dX6_write_103 (by decide) ?_
          refine lv_iadd hx hb dX6_write_104 ?_
          refine lv_iconst (v := 0) hx hb dX6_write_105 (by decide) ?_
          refine p_ast (n := kn + 1) (v := 0) X hw hp hS (nadd (a := kn) (b := 1) ek rfl) (by omega) dX6_write_106 (fun H locs hw hS => ?_)
          exact K107 kn _ _ _ _ _ ls hkn ek hw hS (lv_sub hl [0, 1, 2, 3, 4] rfl)
  have K44 : ∀ (kn : Nat) (u v : Int32) (g : Nat → Int32) (H : Heap) (locs : List Loc) (ls : Array Slot), kn < 8 → k = nI kn → mW Γ.1 vwCl A L (cM Γ L (sP x a b (g, d))) H → va_S A s.heap H locs → lv_has ls 5 [(3, .int u), (4, .int v), (0, .ref (L (nm a b))), (1, .int k), (2, .int w)] → W p l e { frames := 0, cells := 0, slots := 0, locals := 0 } s m args below meth c H locs 0 0 (MQ below (mQv Γ (mPv Γ L x a b) A) args s 0 0 A) (F0 m 44 ls []) := by
    intro kn u v g H locs ls hkn ek hw hS hl
    refine lv_iload_n hx hb dX6_write_44 rfl (lv_at hl 3 rfl) ?_
    refine lv_if_le (tgt := 74) hx hb dX6_write_45 (by decide) (fun c_4 => ?_) (fun c_4 => ?_)
    · skip
      have c_4n : kn ≤ 0 := nleT (a := kn) (b := 0) ek rfl (by omega) (by omega) c_4
      have c_4m : ¬ 0 < kn := by omega
      exact K74 kn _ _ _ _ _ ls hkn ek hw hS (lv_sub hl [0, 1, 2, 3, 4] rfl)
    · skip
      have c_4n : ¬ kn ≤ 0 := nleF (a := kn) (b := 0) ek rfl (by omega) (by omega) c_4
      have c_4m : 0 < kn := by omega
      refine lv_iload hx hb dX6_write_48 (lv_at hl 1 rfl) ?_
      refine lv_if_ne (tgt := 65) hx hb dX6_write_50 (by decide) (fun c_5 => ?_) (fun c_5 => ?_)
      · skip
        refine lv_aload_n hx hb dX6_write_65 rfl (lv_at hl 2 rfl) ?_
        refine p_getk X hw hp fl_X6_9 rfl dX6_write_66 ?_
        refine lv_iload_n hx hb dX6_write_69 rfl (lv_at hl 3 rfl) ?_
        refine lv_iconst (v := 1) hx hb dX6_write_70 (by decide) ?_
        refine lv_isub hx hb dX6_write_71 ?_
        refine lv_iconst (v := 0) hx hb dX6_write_72 (by decide) ?_
        refine p_ast (n := kn - 1) (v := 0) X hw hp hS (nsub (a := kn) (b := 1) (by omega) ek rfl) (by omega) dX6_write_73 (fun H locs hw hS => ?_)
        exact K74 kn _ _ _ _ _ ls hkn ek hw hS (lv_sub hl [0, 1, 2, 3, 4] rfl)
      · skip
        refine lv_aload_n hx hb dX6_write_53 rfl (lv_at hl 2 rfl) ?_
        refine p_getk X hw hp fl_X6_9 rfl dX6_write_54 ?_
        refine lv_iload_n hx hb dX6_write_57 rfl (lv_at hl 3 rfl) ?_
        refine lv_iconst (v := 1) hx hb dX6_write_58 (by decide) ?_
        refine lv_isub hx hb dX6_write_59 ?_
        refine p_ald (n := kn - 1) X hw hp (nsub (a := kn) (b := 1) (by omega) ek rfl) (by omega) dX6_write_60 ?_
        refine lv_iconst (v := 2) hx hb dX6_write_61 (by decide) ?_
        refine lv_icmp_ne (tgt := 74) hx hb dX6_write_62 (by decide) (fun c_6 => ?_) (fun c_6 => ?_)
        · skip
          exact K74 kn _ _ _ _ _ ls hkn ek hw hS (lv_sub hl [0, 1, 2, 3, 4] rfl)
        · skip
          refine lv_aload_n hx hb dX6_write_65 rfl (lv_at hl 2 rfl) ?_
          refine p_getk X hw hp fl_X6_9 rfl dX6_write_66 ?_
          refine lv_iload_n hx hb dX6_write_69 rfl (lv_at hl 3 rfl) ?_
          refine lv_iconst (v := 1) hx hb dX6_write_70 (by decide) ?_
          refine lv_isub hx hb dX6_write_71 ?_
          refine lv_iconst (v := 0) hx hb dX6_write_72 (by decide) ?_
          refine p_ast (n := kn - 1) (v := 0) X hw hp hS (nsub (a := kn) (b := 1) (by omega) ek rfl) (by omega) dX6_write_73 (fun H locs hw hS => ?_)
          exact K74 kn _ _ _ _ _ ls hkn ek hw hS (lv_sub hl [0, 1, 2, 3, 4] rfl)
  refine lv_iload_n hx hb dX6_write_0 rfl (lv_at hl 1 rfl) ?_
  refine lv_if_lt (tgt := 10) hx hb dX6_write_1 (by decide) (fun c_7 => ?_) (fun c_7 => ?_)
  · skip
    exact m_vret X hr hlk hw hS (Nat.le_of_ble_eq_true rfl) (Nat.le_of_ble_eq_true rfl) ⟨(h, d), by show d ≤ 8; omega, rfl, rfl⟩ dX6_write_10
  · skip
    refine lv_iload_n hx hb dX6_write_4 rfl (lv_at hl 1 rfl) ?_
    refine lv_bipush (v := 8) hx hb dX6_write_5 (by decide) ?_
    refine lv_icmp_lt (tgt := 11) hx hb dX6_write_7 (by decide) (fun c_8 => ?_) (fun c_8 => ?_)
    · skip
      obtain ⟨kn, hkn, ek⟩ := nat_lt8 (by assumption) (by assumption)
      refine lv_aload_n hx hb dX6_write_11 rfl (lv_at hl 0 rfl) ?_
      refine p_getk X hw hp fl_X6_9 rfl dX6_write_12 ?_
      refine lv_iload_n hx hb dX6_write_15 rfl (lv_at hl 1 rfl) ?_
      refine p_ald (n := kn) X hw hp ek (by omega) dX6_write_16 ?_
      refine lv_iconst (v := 2) hx hb dX6_write_17 (by decide) ?_
      refine lv_icmp_ne (tgt := 25) hx hb dX6_write_18 (by decide) (fun c_9 => ?_) (fun c_9 => ?_)
      · skip
        refine lv_iconst (v := 0) hx hb dX6_write_25 (by decide) ?_
        refine lv_istore_n (lv' := [(3, .int 0), (0, .ref (L (nm a b))), (1, .int k), (2, .int w)]) hx hb dX6_write_26 rfl hl (by decide) rfl (fun ls hl => ?_)
        refine lv_aload_n hx hb dX6_write_27 rfl (lv_at hl 1 rfl) ?_
        refine p_getk X hw hp fl_X6_9 rfl dX6_write_28 ?_
        refine lv_iload_n hx hb dX6_write_31 rfl (lv_at hl 2 rfl) ?_
        refine p_ald (n := kn) X hw hp ek (by omega) dX6_write_32 ?_
        refine lv_iconst (v := 3) hx hb dX6_write_33 (by decide) ?_
        refine lv_icmp_ne (tgt := 41) hx hb dX6_write_34 (by decide) (fun c_10 => ?_) (fun c_10 => ?_)
        · skip
          refine lv_iconst (v := 0) hx hb dX6_write_41 (by decide) ?_
          refine lv_istore (lv' := [(4, .int 0), (3, .int 0), (0, .ref (L (nm a b))), (1, .int k), (2, .int w)]) hx hb dX6_write_42 hl (by decide) rfl (fun ls hl => ?_)
          exact K44 kn _ _ _ _ _ ls hkn ek hw hS (lv_sub hl [1, 0, 2, 3, 4] rfl)
        · skip
          refine lv_iconst (v := 1) hx hb dX6_write_37 (by decide) ?_
          refine lv_goto (tgt := 42) hx hb dX6_write_38 (by decide) ?_
          refine lv_istore (lv' := [(4, .int 1), (3, .int 0), (0, .ref (L (nm a b))), (1, .int k), (2, .int w)]) hx hb dX6_write_42 hl (by decide) rfl (fun ls hl => ?_)
          exact K44 kn _ _ _ _ _ ls hkn ek hw hS (lv_sub hl [1, 0, 2, 3, 4] rfl)
      · skip
        refine lv_iconst (v := 1) hx hb dX6_write_21 (by decide) ?_
        refine lv_goto (tgt := 26) hx hb dX6_write_22 (by decide) ?_
        refine lv_istore_n (lv' := [(3, .int 1), (0, .ref (L (nm a b))), (1, .int k), (2, .int w)]) hx hb dX6_write_26 rfl hl (by decide) rfl (fun ls hl => ?_)
        refine lv_aload_n hx hb dX6_write_27 rfl (lv_at hl 1 rfl) ?_
        refine p_getk X hw hp fl_X6_9 rfl dX6_write_28 ?_
        refine lv_iload_n hx hb dX6_write_31 rfl (lv_at hl 2 rfl) ?_
        refine p_ald (n := kn) X hw hp ek (by omega) dX6_write_32 ?_
        refine lv_iconst (v := 3) hx hb dX6_write_33 (by decide) ?_
        refine lv_icmp_ne (tgt := 41) hx hb dX6_write_34 (by decide) (fun c_11 => ?_) (fun c_11 => ?_)
        · skip
          refine lv_iconst (v := 0) hx hb dX6_write_41 (by decide) ?_
          refine lv_istore (lv' := [(4, .int 0), (3, .int 1), (0, .ref (L (nm a b))), (1, .int k), (2, .int w)]) hx hb dX6_write_42 hl (by decide) rfl (fun ls hl => ?_)
          exact K44 kn _ _ _ _ _ ls hkn ek hw hS (lv_sub hl [1, 0, 2, 3, 4] rfl)
        · skip
          refine lv_iconst (v := 1) hx hb dX6_write_37 (by decide) ?_
          refine lv_goto (tgt := 42) hx hb dX6_write_38 (by decide) ?_
          refine lv_istore (lv' := [(4, .int 1), (3, .int 1), (0, .ref (L (nm a b))), (1, .int k), (2, .int w)]) hx hb dX6_write_42 hl (by decide) rfl (fun ls hl => ?_)
          exact K44 kn _ _ _ _ _ ls hkn ek hw hS (lv_sub hl [1, 0, 2, 3, 4] rfl)
    · skip
      exact m_vret X hr hlk hw hS (Nat.le_of_ble_eq_true rfl) (Nat.le_of_ble_eq_true rfl) ⟨(h, d), by show d ≤ 8; omega, rfl, rfl⟩ dX6_write_10
theorem v_X6_writeLong : mVm yX6_writeLong cX6_writeLong 2 none 1 := ⟨cd_X6_writeLong, im_X6_writeLong, se_X6_writeLong, ini_X6, by decide, by decide, by decide +kernel⟩
set_option maxHeartbeats 4000000 in
set_option maxRecDepth 100000 in
theorem k_X6_writeLong (Γ : mG) (l : Launch) (L : mI → Nat) (x : CS) (a b : Nat) (h : Nat → Int32) (d : Nat) (k : Int32) (hp : pOK x a b) (hd : d ≤ 8) : mMet Γ l yX6_writeLong cX6_writeLong 2 none { frames := 1, cells := 0, slots := 0, locals := 24 } [.ref (L (nm a b)), .int k] L (cM Γ L (sP x a b (h, d))) (mQv Γ (mPv Γ L x a b)) := by
  refine m_start (by decide) (Nat.le_of_ble_eq_true rfl) ?_
  intro p e s m args below meth c A ls X hr hlk hnm hw hS hl
  have hx := X.1.1
  have hb := X.1.2.1
  have hl : lv_has ls 2 [(0, .ref (L (nm a b))), (1, .int k)] := hl
  refine lv_aload_n hx hb dX6_writeLong_0 rfl (lv_at hl 0 rfl) ?_
  refine lv_iload_n hx hb dX6_writeLong_1 rfl (lv_at hl 1 rfl) ?_
  refine lv_iconst (v := 0) hx hb dX6_writeLong_2 (by decide) ?_
  refine m_callv (m_runV (i := nm a b) (ci := 4) (As := [.int k, .int 0]) (rest := []) X (k_X6_write Γ l L x a b h d k 0 hp (by omega)) v_X6_write ml_X6_61 hw hS (p_obj Γ L (c := sP x a b (h, d)) hp) rfl rfl rfl hl.1 ⟨Nat.le_of_ble_eq_true rfl, Nat.le_of_ble_eq_true rfl⟩ (Nat.le_of_ble_eq_true rfl) ⟨Nat.le_of_ble_eq_true rfl, Nat.le_of_ble_eq_true rfl⟩ dX6_writeLong_3) hS (fun L1 M1 H locs hp_1 hw hS => ?_)
  obtain ⟨⟨h_1, d_1⟩, hd_1, e1, e2⟩ := hp_1
  have hd_1 : d_1 ≤ 8 := hd_1
  rw [e1, e2] at hw; clear e1 e2
  refine lv_aload_n hx hb dX6_writeLong_6 rfl (lv_at hl 0 rfl) ?_
  refine lv_iload_n hx hb dX6_writeLong_7 rfl (lv_at hl 1 rfl) ?_
  refine lv_iconst (v := 1) hx hb dX6_writeLong_8 (by decide) ?_
  refine lv_iadd hx hb dX6_writeLong_9 ?_
  refine lv_iconst (v := 3) hx hb dX6_writeLong_10 (by decide) ?_
  refine m_callv (m_runV (i := nm a b) (ci := 4) (As := [.int (k + 1), .int 3]) (rest := []) X (k_X6_write Γ l L x a b h_1 d_1 (k + 1) 3 hp (by omega)) v_X6_write ml_X6_61 hw hS (p_obj Γ L (c := sP x a b (h_1, d_1)) hp) rfl rfl rfl hl.1 ⟨Nat.le_of_ble_eq_true rfl, Nat.le_of_ble_eq_true rfl⟩ (Nat.le_of_ble_eq_true rfl) ⟨Nat.le_of_ble_eq_true rfl, Nat.le_of_ble_eq_true rfl⟩ dX6_writeLong_11) hS (fun L1 M1 H locs hp_2 hw hS => ?_)
  obtain ⟨⟨h_2, d_2⟩, hd_2, e1, e2⟩ := hp_2
  have hd_2 : d_2 ≤ 8 := hd_2
  rw [e1, e2] at hw; clear e1 e2
  refine lv_iload_n hx hb dX6_writeLong_14 rfl (lv_at hl 1 rfl) ?_
  refine lv_if_lt (tgt := 31) hx hb dX6_writeLong_15 (by decide) (fun c_3 => ?_) (fun c_3 => ?_)
  · skip
    exact m_vret X hr hlk hw hS (Nat.le_of_ble_eq_true rfl) (Nat.le_of_ble_eq_true rfl) ⟨(h_2, d_2), by show d_2 ≤ 8; omega, rfl, rfl⟩ dX6_writeLong_31
  · skip
    refine lv_iload_n hx hb dX6_writeLong_18 rfl (lv_at hl 1 rfl) ?_
    refine lv_bipush (v := 8) hx hb dX6_writeLong_19 (by decide) ?_
    refine lv_icmp_ge (tgt := 31) hx hb dX6_writeLong_21 (by decide) (fun c_4 => ?_) (fun c_4 => ?_)
    · skip
      exact m_vret X hr hlk hw hS (Nat.le_of_ble_eq_true rfl) (Nat.le_of_ble_eq_true rfl) ⟨(h_2, d_2), by show d_2 ≤ 8; omega, rfl, rfl⟩ dX6_writeLong_31
    · skip
      obtain ⟨kn, hkn, ek⟩ := nat_lt8 (by assumption) (Int32.not_le.mp (by assumption))
      refine lv_aload_n hx hb dX6_writeLong_24 rfl (lv_at hl 0 rfl) ?_
      refine p_getk X hw hp fl_X6_9 rfl dX6_writeLong_25 ?_
      refine lv_iload_n hx hb dX6_writeLong_28 rfl (lv_at hl 1 rfl) ?_
      refine lv_iconst (v := 2) hx hb dX6_writeLong_29 (by decide) ?_
      refine p_ast (n := kn) (v := 2) X hw hp hS ek (by omega) dX6_writeLong_30 (fun H locs hw hS => ?_)
      exact m_vret X hr hlk hw hS (Nat.le_of_ble_eq_true rfl) (Nat.le_of_ble_eq_true rfl) ⟨(upd h_2 kn 2, d_2), by show d_2 ≤ 8; omega, rfl, rfl⟩ dX6_writeLong_31
theorem v_X6_stackHolds : mVm yX6_stackHolds cX6_stackHolds 3 (some .boolean) 1 := ⟨cd_X6_stackHolds, im_X6_stackHolds, se_X6_stackHolds, ini_X6, by decide, by decide, by decide +kernel⟩
set_option maxHeartbeats 4000000 in
set_option maxRecDepth 100000 in
theorem k_X6_stackHolds (Γ : mG) (l : Launch) (L : mI → Nat) (x : CS) (a b : Nat) (h : Nat → Int32) (d : Nat) (k : Int32) (hp : pOK x a b) (hd : d ≤ 8) : mMet Γ l yX6_stackHolds cX6_stackHolds 3 (some .boolean) { frames := 1, cells := 0, slots := 0, locals := 21 } [.ref (L (nm a b)), .int k] L (cM Γ L (sP x a b (h, d))) (mQi Γ (mPz Γ L x a b)) := by
  refine m_start (by decide) (Nat.le_of_ble_eq_true rfl) ?_
  intro p e s m args below meth c A ls X hr hlk hnm hw hS hl
  have hx := X.1.1
  have hb := X.1.2.1
  have hl : lv_has ls 3 [(0, .ref (L (nm a b))), (1, .int k)] := hl
  have KL : ∀ (n : Nat) (t : Nat) (j : Int32) (g : Nat → Int32) (H : Heap) (locs : List Loc) (ls : Array Slot), t + n = 16 → j = nI t → mW Γ.1 vwCl A L (cM Γ L (sP x a b (g, d))) H → va_S A s.heap H locs → lv_has ls 3 [(2, .int j), (0, .ref (L (nm a b))), (1, .int k)] → W p l e { frames := 1, cells := 0, slots := 0, locals := 21 } s m args below meth c H locs 0 0 (MQ below (mQi Γ (mPz Γ L x a b) A) args s 0 0 A) (F0 m 3 ls []) := by
    intro n
    induction n with
    | zero =>
      intro t j g H locs ls f0 f1 hw hS hl
      refine lv_iload_n hx hb dX6_stackHolds_3 rfl (lv_at hl 0 rfl) ?_
      refine lv_bipush (v := 16) hx hb dX6_stackHolds_4 (by decide) ?_
      refine lv_icmp_ge (tgt := 35) hx hb dX6_stackHolds_6 (by decide) (fun c_1 => ?_) (fun c_1 => ?_)
      · skip
        have c_1n : t ≥ 16 := ngeT (a := t) (b := 16) f1 rfl (by omega) (by omega) c_1
        have c_1m : ¬ t < 16 := by omega
        refine lv_iconst (v := 0) hx hb dX6_stackHolds_35 (by decide) ?_
        exact m_zret (b := false) X hr hlk hw hS (Nat.le_of_ble_eq_true rfl) (Nat.le_of_ble_eq_true rfl) rfl ⟨⟨_, rfl⟩, (g, d), by show d ≤ 8; omega, rfl, rfl⟩ dX6_stackHolds_36
      · skip
        have c_1n : ¬ t ≥ 16 := ngeF (a := t) (b := 16) f1 rfl (by omega) (by omega) c_1
        have c_1m : t < 16 := by omega
        refine lv_aload_n hx hb dX6_stackHolds_9 rfl (lv_at hl 1 rfl) ?_
        refine lv_iload_n hx hb dX6_stackHolds_10 rfl (lv_at hl 0 rfl) ?_
        refine m_calli (m_runV (i := nm a b) (ci := 4) (As := [.int j]) (rest := []) X (k_X6_has Γ l L (sP x a b (g, d)) a b j hp) v_X6_has ml_X6_29 hw hS (p_obj Γ L (c := sP x a b (g, d)) hp) rfl rfl rfl hl.1 ⟨Nat.le_of_ble_eq_true rfl, Nat.le_of_ble_eq_true rfl⟩ (Nat.le_of_ble_eq_true rfl) ⟨Nat.le_of_ble_eq_true rfl, Nat.le_of_ble_eq_true rfl⟩ dX6_stackHolds_11) hS (fun r_2 L1 M1 H locs hp_2 hw hS => ?_)
        obtain ⟨e0, e1, e2⟩ := hp_2
        rw [sP_dep] at e0
        subst e0; rw [e1, e2] at hw; clear e1 e2
        refine lv_if_eq (tgt := 35) hx hb dX6_stackHolds_14 (by decide) (fun c_3 => ?_) (fun c_3 => ?_)
        · skip
          have c_3 := bI_f c_3
          refine lv_iconst (v := 0) hx hb dX6_stackHolds_35 (by decide) ?_
          exact m_zret (b := false) X hr hlk hw hS (Nat.le_of_ble_eq_true rfl) (Nat.le_of_ble_eq_true rfl) rfl ⟨⟨_, rfl⟩, (g, d), by show d ≤ 8; omega, rfl, rfl⟩ dX6_stackHolds_36
        · skip
          have c_3 := bI_t c_3
          refine lv_aload_n hx hb dX6_stackHolds_17 rfl (lv_at hl 1 rfl) ?_
          refine p_getk X hw hp fl_X6_9 rfl dX6_stackHolds_18 ?_
          refine lv_iload_n hx hb dX6_stackHolds_21 rfl (lv_at hl 0 rfl) ?_
          refine p_ald (n := t) X hw hp f1 (by omega) dX6_stackHolds_22 ?_
          refine lv_iload_n hx hb dX6_stackHolds_23 rfl (lv_at hl 2 rfl) ?_
          refine lv_icmp_ne (tgt := 29) hx hb dX6_stackHolds_24 (by decide) (fun c_4 => ?_) (fun c_4 => ?_)
          · skip
            refine lv_iinc (v := j + 1) (lv' := [(2, .int (j + 1)), (0, .ref (L (nm a b))), (1, .int k)]) hx hb dX6_stackHolds_29 hl (k := 0) rfl rfl (by decide) rfl (fun ls hl => ?_)
            refine lv_goto (tgt := 3) hx hb dX6_stackHolds_32 (by decide) ?_
            exact (by omega : False).elim
          · skip
            refine lv_iconst (v := 1) hx hb dX6_stackHolds_27 (by decide) ?_
            exact m_zret (b := true) X hr hlk hw hS (Nat.le_of_ble_eq_true rfl) (Nat.le_of_ble_eq_true rfl) rfl ⟨⟨_, rfl⟩, (g, d), by show d ≤ 8; omega, rfl, rfl⟩ dX6_stackHolds_28
    | succ n ih =>
      intro t j g H locs ls f0 f1 hw hS hl
      refine lv_iload_n hx hb dX6_stackHolds_3 rfl (lv_at hl 0 rfl) ?_
      refine lv_bipush (v := 16) hx hb dX6_stackHolds_4 (by decide) ?_
      refine lv_icmp_ge (tgt := 35) hx hb dX6_stackHolds_6 (by decide) (fun c_5 => ?_) (fun c_5 => ?_)
      · skip
        have c_5n : t ≥ 16 := ngeT (a := t) (b := 16) f1 rfl (by omega) (by omega) c_5
        have c_5m : ¬ t < 16 := by omega
        refine lv_iconst (v := 0) hx hb dX6_stackHolds_35 (by decide) ?_
        exact m_zret (b := false) X hr hlk hw hS (Nat.le_of_ble_eq_true rfl) (Nat.le_of_ble_eq_true rfl) rfl ⟨⟨_, rfl⟩, (g, d), by show d ≤ 8; omega, rfl, rfl⟩ dX6_stackHolds_36
      · skip
        have c_5n : ¬ t ≥ 16 := ngeF (a := t) (b := 16) f1 rfl (by omega) (by omega) c_5
        have c_5m : t < 16 := by omega
        refine lv_aload_n hx hb dX6_stackHolds_9 rfl (lv_at hl 1 rfl) ?_
        refine lv_iload_n hx hb dX6_stackHolds_10 rfl (lv_at hl 0 rfl) ?_
        refine m_calli (m_runV (i := nm a b) (ci := 4) (As := [.int j]) (rest := []) X (k_X6_has Γ l L (sP x a b (g, d)) a b j hp) v_X6_has ml_X6_29 hw hS (p_obj Γ L (c := sP x a b (g, d)) hp) rfl rfl rfl hl.1 ⟨Nat.le_of_ble_eq_true rfl, Nat.le_of_ble_eq_true rfl⟩ (Nat.le_of_ble_eq_true rfl) ⟨Nat.le_of_ble_eq_true rfl, Nat.le_of_ble_eq_true rfl⟩ dX6_stackHolds_11) hS (fun r_6 L1 M1 H locs hp_6 hw hS => ?_)
        obtain ⟨e0, e1, e2⟩ := hp_6
        rw [sP_dep] at e0
        subst e0; rw [e1, e2] at hw; clear e1 e2
        refine lv_if_eq (tgt := 35) hx hb dX6_stackHolds_14 (by decide) (fun c_7 => ?_) (fun c_7 => ?_)
        · skip
          have c_7 := bI_f c_7
          refine lv_iconst (v := 0) hx hb dX6_stackHolds_35 (by decide) ?_
          exact m_zret (b := false) X hr hlk hw hS (Nat.le_of_ble_eq_true rfl) (Nat.le_of_ble_eq_true rfl) rfl ⟨⟨_, rfl⟩, (g, d), by show d ≤ 8; omega, rfl, rfl⟩ dX6_stackHolds_36
        · skip
          have c_7 := bI_t c_7
          refine lv_aload_n hx hb dX6_stackHolds_17 rfl (lv_at hl 1 rfl) ?_
          refine p_getk X hw hp fl_X6_9 rfl dX6_stackHolds_18 ?_
          refine lv_iload_n hx hb dX6_stackHolds_21 rfl (lv_at hl 0 rfl) ?_
          refine p_ald (n := t) X hw hp f1 (by omega) dX6_stackHolds_22 ?_
          refine lv_iload_n hx hb dX6_stackHolds_23 rfl (lv_at hl 2 rfl) ?_
          refine lv_icmp_ne (tgt := 29) hx hb dX6_stackHolds_24 (by decide) (fun c_8 => ?_) (fun c_8 => ?_)
          · skip
            refine lv_iinc (v := j + 1) (lv' := [(2, .int (j + 1)), (0, .ref (L (nm a b))), (1, .int k)]) hx hb dX6_stackHolds_29 hl (k := 0) rfl rfl (by decide) rfl (fun ls hl => ?_)
            refine lv_goto (tgt := 3) hx hb dX6_stackHolds_32 (by decide) ?_
            exact ih (t + 1) _ _ _ _ ls (by omega) (nadd (a := t) (b := 1) f1 rfl) hw hS (lv_sub hl [0, 1, 2] rfl)
          · skip
            refine lv_iconst (v := 1) hx hb dX6_stackHolds_27 (by decide) ?_
            exact m_zret (b := true) X hr hlk hw hS (Nat.le_of_ble_eq_true rfl) (Nat.le_of_ble_eq_true rfl) rfl ⟨⟨_, rfl⟩, (g, d), by show d ≤ 8; omega, rfl, rfl⟩ dX6_stackHolds_28
  refine lv_bipush (v := 8) hx hb dX6_stackHolds_0 (by decide) ?_
  refine lv_istore_n (lv' := [(2, .int 8), (0, .ref (L (nm a b))), (1, .int k)]) hx hb dX6_stackHolds_2 rfl hl (by decide) rfl (fun ls hl => ?_)
  exact KL 8 8 _ _ _ _ ls rfl rfl hw hS (lv_sub hl [0, 1, 2] rfl)
theorem v_X6_replace : mVm yX6_replace cX6_replace 4 none 2 := ⟨cd_X6_replace, im_X6_replace, se_X6_replace, ini_X6, by decide, by decide, by decide +kernel⟩
set_option maxHeartbeats 4000000 in
set_option maxRecDepth 100000 in
theorem k_X6_replace (Γ : mG) (l : Launch) (L : mI → Nat) (x : CS) (a b : Nat) (h : Nat → Int32) (d : Nat) (k : Int32) (w : Int32) (hp : pOK x a b) (hd : d ≤ 8) : mMet Γ l yX6_replace cX6_replace 4 none { frames := 1, cells := 0, slots := 0, locals := 21 } [.ref (L (nm a b)), .int k, .int w] L (cM Γ L (sP x a b (h, d))) (mQv Γ (mPv Γ L x a b)) := by
  refine m_start (by decide) (Nat.le_of_ble_eq_true rfl) ?_
  intro p e s m args below meth c A ls X hr hlk hnm hw hS hl
  have hx := X.1.1
  have hb := X.1.2.1
  have hl : lv_has ls 4 [(0, .ref (L (nm a b))), (1, .int k), (2, .int w)] := hl
  have KL : ∀ (n : Nat) (t : Nat) (j : Int32) (g : Nat → Int32) (H : Heap) (locs : List Loc) (ls : Array Slot), t + n = 16 → j = nI t → mW Γ.1 vwCl A L (cM Γ L (sP x a b (g, d))) H → va_S A s.heap H locs → lv_has ls 4 [(3, .int j), (0, .ref (L (nm a b))), (1, .int k), (2, .int w)] → W p l e { frames := 1, cells := 0, slots := 0, locals := 21 } s m args below meth c H locs 0 0 (MQ below (mQv Γ (mPv Γ L x a b) A) args s 0 0 A) (F0 m 2 ls []) := by
    intro n
    induction n with
    | zero =>
      intro t j g H locs ls f0 f1 hw hS hl
      refine lv_iload_n hx hb dX6_replace_2 rfl (lv_at hl 0 rfl) ?_
      refine lv_bipush (v := 16) hx hb dX6_replace_3 (by decide) ?_
      refine lv_icmp_ge (tgt := 39) hx hb dX6_replace_5 (by decide) (fun c_1 => ?_) (fun c_1 => ?_)
      · skip
        have c_1n : t ≥ 16 := ngeT (a := t) (b := 16) f1 rfl (by omega) (by omega) c_1
        have c_1m : ¬ t < 16 := by omega
        exact m_vret X hr hlk hw hS (Nat.le_of_ble_eq_true rfl) (Nat.le_of_ble_eq_true rfl) ⟨(g, d), by show d ≤ 8; omega, rfl, rfl⟩ dX6_replace_39
      · skip
        have c_1n : ¬ t ≥ 16 := ngeF (a := t) (b := 16) f1 rfl (by omega) (by omega) c_1
        have c_1m : t < 16 := by omega
        refine lv_aload_n hx hb dX6_replace_8 rfl (lv_at hl 1 rfl) ?_
        refine lv_iload_n hx hb dX6_replace_9 rfl (lv_at hl 0 rfl) ?_
        refine m_calli (m_runV (i := nm a b) (ci := 4) (As := [.int j]) (rest := []) X (k_X6_has Γ l L (sP x a b (g, d)) a b j hp) v_X6_has ml_X6_29 hw hS (p_obj Γ L (c := sP x a b (g, d)) hp) rfl rfl rfl hl.1 ⟨Nat.le_of_ble_eq_true rfl, Nat.le_of_ble_eq_true rfl⟩ (Nat.le_of_ble_eq_true rfl) ⟨Nat.le_of_ble_eq_true rfl, Nat.le_of_ble_eq_true rfl⟩ dX6_replace_10) hS (fun r_2 L1 M1 H locs hp_2 hw hS => ?_)
        obtain ⟨e0, e1, e2⟩ := hp_2
        rw [sP_dep] at e0
        subst e0; rw [e1, e2] at hw; clear e1 e2
        refine lv_if_eq (tgt := 39) hx hb dX6_replace_13 (by decide) (fun c_3 => ?_) (fun c_3 => ?_)
        · skip
          have c_3 := bI_f c_3
          exact m_vret X hr hlk hw hS (Nat.le_of_ble_eq_true rfl) (Nat.le_of_ble_eq_true rfl) ⟨(g, d), by show d ≤ 8; omega, rfl, rfl⟩ dX6_replace_39
        · skip
          have c_3 := bI_t c_3
          refine lv_aload_n hx hb dX6_replace_16 rfl (lv_at hl 1 rfl) ?_
          refine p_getk X hw hp fl_X6_9 rfl dX6_replace_17 ?_
          refine lv_iload_n hx hb dX6_replace_20 rfl (lv_at hl 0 rfl) ?_
          refine p_ald (n := t) X hw hp f1 (by omega) dX6_replace_21 ?_
          refine lv_iload_n hx hb dX6_replace_22 rfl (lv_at hl 2 rfl) ?_
          refine lv_icmp_ne (tgt := 33) hx hb dX6_replace_23 (by decide) (fun c_4 => ?_) (fun c_4 => ?_)
          · skip
            refine lv_iinc (v := j + 1) (lv' := [(3, .int (j + 1)), (0, .ref (L (nm a b))), (1, .int k), (2, .int w)]) hx hb dX6_replace_33 hl (k := 0) rfl rfl (by decide) rfl (fun ls hl => ?_)
            refine lv_goto (tgt := 2) hx hb dX6_replace_36 (by decide) ?_
            exact (by omega : False).elim
          · skip
            refine lv_aload_n hx hb dX6_replace_26 rfl (lv_at hl 1 rfl) ?_
            refine p_getk X hw hp fl_X6_9 rfl dX6_replace_27 ?_
            refine lv_iload_n hx hb dX6_replace_30 rfl (lv_at hl 0 rfl) ?_
            refine lv_iload_n hx hb dX6_replace_31 rfl (lv_at hl 3 rfl) ?_
            refine p_ast (n := t) (v := w) X hw hp hS f1 (by omega) dX6_replace_32 (fun H locs hw hS => ?_)
            refine lv_iinc (v := j + 1) (lv' := [(3, .int (j + 1)), (0, .ref (L (nm a b))), (1, .int k), (2, .int w)]) hx hb dX6_replace_33 hl (k := 0) rfl rfl (by decide) rfl (fun ls hl => ?_)
            refine lv_goto (tgt := 2) hx hb dX6_replace_36 (by decide) ?_
            exact (by omega : False).elim
    | succ n ih =>
      intro t j g H locs ls f0 f1 hw hS hl
      refine lv_iload_n hx hb dX6_replace_2 rfl (lv_at hl 0 rfl) ?_
      refine lv_bipush (v := 16) hx hb dX6_replace_3 (by decide) ?_
      refine lv_icmp_ge (tgt := 39) hx hb dX6_replace_5 (by decide) (fun c_5 => ?_) (fun c_5 => ?_)
      · skip
        have c_5n : t ≥ 16 := ngeT (a := t) (b := 16) f1 rfl (by omega) (by omega) c_5
        have c_5m : ¬ t < 16 := by omega
        exact m_vret X hr hlk hw hS (Nat.le_of_ble_eq_true rfl) (Nat.le_of_ble_eq_true rfl) ⟨(g, d), by show d ≤ 8; omega, rfl, rfl⟩ dX6_replace_39
      · skip
        have c_5n : ¬ t ≥ 16 := ngeF (a := t) (b := 16) f1 rfl (by omega) (by omega) c_5
        have c_5m : t < 16 := by omega
        refine lv_aload_n hx hb dX6_replace_8 rfl (lv_at hl 1 rfl) ?_
        refine lv_iload_n hx hb dX6_replace_9 rfl (lv_at hl 0 rfl) ?_
        refine m_calli (m_runV (i := nm a b) (ci := 4) (As := [.int j]) (rest := []) X (k_X6_has Γ l L (sP x a b (g, d)) a b j hp) v_X6_has ml_X6_29 hw hS (p_obj Γ L (c := sP x a b (g, d)) hp) rfl rfl rfl hl.1 ⟨Nat.le_of_ble_eq_true rfl, Nat.le_of_ble_eq_true rfl⟩ (Nat.le_of_ble_eq_true rfl) ⟨Nat.le_of_ble_eq_true rfl, Nat.le_of_ble_eq_true rfl⟩ dX6_replace_10) hS (fun r_6 L1 M1 H locs hp_6 hw hS => ?_)
        obtain ⟨e0, e1, e2⟩ := hp_6
        rw [sP_dep] at e0
        subst e0; rw [e1, e2] at hw; clear e1 e2
        refine lv_if_eq (tgt := 39) hx hb dX6_replace_13 (by decide) (fun c_7 => ?_) (fun c_7 => ?_)
        · skip
          have c_7 := bI_f c_7
          exact m_vret X hr hlk hw hS (Nat.le_of_ble_eq_true rfl) (Nat.le_of_ble_eq_true rfl) ⟨(g, d), by show d ≤ 8; omega, rfl, rfl⟩ dX6_replace_39
        · skip
          have c_7 := bI_t c_7
          refine lv_aload_n hx hb dX6_replace_16 rfl (lv_at hl 1 rfl) ?_
          refine p_getk X hw hp fl_X6_9 rfl dX6_replace_17 ?_
          refine lv_iload_n hx hb dX6_replace_20 rfl (lv_at hl 0 rfl) ?_
          refine p_ald (n := t) X hw hp f1 (by omega) dX6_replace_21 ?_
          refine lv_iload_n hx hb dX6_replace_22 rfl (lv_at hl 2 rfl) ?_
          refine lv_icmp_ne (tgt := 33) hx hb dX6_replace_23 (by decide) (fun c_8 => ?_) (fun c_8 => ?_)
          · skip
            refine lv_iinc (v := j + 1) (lv' := [(3, .int (j + 1)), (0, .ref (L (nm a b))), (1, .int k), (2, .int w)]) hx hb dX6_replace_33 hl (k := 0) rfl rfl (by decide) rfl (fun ls hl => ?_)
            refine lv_goto (tgt := 2) hx hb dX6_replace_36 (by decide) ?_
            exact ih (t + 1) _ _ _ _ ls (by omega) (nadd (a := t) (b := 1) f1 rfl) hw hS (lv_sub hl [0, 1, 2, 3] rfl)
          · skip
            refine lv_aload_n hx hb dX6_replace_26 rfl (lv_at hl 1 rfl) ?_
            refine p_getk X hw hp fl_X6_9 rfl dX6_replace_27 ?_
            refine lv_iload_n hx hb dX6_replace_30 rfl (lv_at hl 0 rfl) ?_
            refine lv_iload_n hx hb dX6_replace_31 rfl (lv_at hl 3 rfl) ?_
            refine p_ast (n := t) (v := w) X hw hp hS f1 (by omega) dX6_replace_32 (fun H locs hw hS => ?_)
            refine lv_iinc (v := j + 1) (lv' := [(3, .int (j + 1)), (0, .ref (L (nm a b))), (1, .int k), (2, .int w)]) hx hb dX6_replace_33 hl (k := 0) rfl rfl (by decide) rfl (fun ls hl => ?_)
            refine lv_goto (tgt := 2) hx hb dX6_replace_36 (by decide) ?_
            exact ih (t + 1) _ _ _ _ ls (by omega) (nadd (a := t) (b := 1) f1 rfl) hw hS (lv_sub hl [0, 1, 2, 3] rfl)
  refine lv_iconst (v := 0) hx hb dX6_replace_0 (by decide) ?_
  refine lv_istore_n (lv' := [(3, .int 0), (0, .ref (L (nm a b))), (1, .int k), (2, .int w)]) hx hb dX6_replace_1 rfl hl (by decide) rfl (fun ls hl => ?_)
  exact KL 16 0 _ _ _ _ ls rfl rfl hw hS (lv_sub hl [0, 1, 2, 3] rfl)
