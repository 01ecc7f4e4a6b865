/-! NEW and MADE -/
def p_holds (h : Nat → Int32) (v : Int32) : Nat → Bool
  | 0 => false
  | n + 1 => p_holds h v n || decide (h (8 + n) = v)
def p_repl (h : Nat → Int32) (v w : Int32) (t : Nat) : Nat → Int32 := fun j => if j < t ∧ h j = v then w else h j
theorem p_repl_0 (h : Nat → Int32) (v w : Int32) : p_repl h v w 0 = h := by funext j; simp [p_repl]
theorem p_repl_at (h : Nat → Int32) (v w : Int32) (t : Nat) : p_repl h v w t t = h t := by simp [p_repl]
theorem p_repl_hit {h : Nat → Int32} {v w : Int32} {t : Nat} (c : h t = v) : upd (p_repl h v w t) t w = p_repl h v w (t + 1) := by
  funext j
  by_cases e : j = t
  · subst e; simp [upd, p_repl, c]
  · by_cases l : j < t
    · simp [upd, p_repl, e, l, Nat.lt_succ_of_lt l]
    · have l2 : ¬ j < t + 1 := by omega
      simp [upd, p_repl, e, l, l2]
theorem p_repl_miss {h : Nat → Int32} {v w : Int32} {t : Nat} (c : ¬ h t = v) : upd (p_repl h v w t) t (p_repl h v w t t) = p_repl h v w (t + 1) := by
  rw [p_repl_at]
  funext j
  by_cases e : j = t
  · subst e; simp [upd, p_repl, c]
  · by_cases l : j < t
    · simp [upd, p_repl, e, l, Nat.lt_succ_of_lt l]
    · have l2 : ¬ j < t + 1 := by omega
      simp [upd, p_repl, e, l, l2]
theorem p_holds_mono {h : Nat → Int32} {v : Int32} {t : Nat} (c : h (8 + t) = v) : ∀ u, p_holds h v (t + 1 + u) = true
  | 0 => by simp [p_holds, c]
  | u + 1 => by show (p_holds h v (t + 1 + u) || _) = true; rw [p_holds_mono c u]; rfl
def p_made (ops : Nat → Int32) (as : Nat → Int64) (om : Nat) (q : PL) (a : Int64) : Option PL := if r_isIn a 1 5 = true ∧ ¬ q.2 = 0 ∧ r_isM om (q.1 (7 + q.2) - 100) = true ∧ ops (q.1 (7 + q.2) - 100).toNatClampNeg = 12 ∧ as (q.1 (7 + q.2) - 100).toNatClampNeg = a then some (p_repl q.1 (q.1 (7 + q.2)) (10 + a.toInt32) (8 + (q.2 - 1)), q.2 - 1) else none
theorem p_made_le {ops : Nat → Int32} {as : Nat → Int64} {om : Nat} {q z : PL} {a : Int64} (h : p_made ops as om q a = some z) (hd : q.2 ≤ 8) : z.2 ≤ 8 := by
  unfold p_made at h
  split at h
  · cases h; show q.2 - 1 ≤ 8; omega
  · cases h
theorem isM_eq2 {n : Nat} {a : Int32} (h8 : n < 1000) : r_isIn a.toInt64 0 ((nI n - 1).toInt64) = r_isM n a := by
  apply Bool.eq_iff_iff.mpr
  rw [r_isIn_iff, i64_toInt, i64_toInt]
  unfold r_isM
  rw [decide_eq_true_iff]
  have e : (nI n - 1).toInt = (n : Int) - 1 := by
    have := pk_sub_toInt (a := n) (b := 1) (by omega) (by decide)
    exact this
  rw [e]
  show (0 : Int) ≤ a.toInt ∧ a.toInt ≤ (n : Int) - 1 ↔ _
  omega
def p_new (q : PL) (i : Int32) (a : Int64) : Option PL := if r_isIn a 1 5 = true then (if p_holds q.1 (100 + i) q.2 = true then none else p_push (p_repl q.1 (100 + i) 0 8, q.2) (100 + i)) else none
theorem p_new_le {q z : PL} {i : Int32} {a : Int64} (h : p_new q i a = some z) (hd : q.2 ≤ 8) : z.2 ≤ 8 := by
  unfold p_new at h
  by_cases c : r_isIn a 1 5 = true
  · rw [if_pos c] at h
    by_cases c2 : p_holds q.1 (100 + i) q.2 = true
    · rw [if_pos c2] at h; cases h
    · rw [if_neg c2] at h; exact p_push_le (q := (_, q.2)) h hd
  · rw [if_neg c] at h; cases h
theorem v_X10_isNew : mVm yX10_isNew cX10_isNew 5 (some .boolean) 2 := ⟨cd_X10_isNew, im_X10_isNew, se_X10_isNew, ini_X10, by decide, by decide, by decide +kernel⟩
set_option maxHeartbeats 4000000 in
set_option maxRecDepth 100000 in
theorem k_X10_isNew (Γ : mG) (l : Launch) (L : mI → Nat) (x : RS) (h : Nat → Int32) (d : Nat) (b : Int32) (v : Int64) (hd : d ≤ 8)  : mMet Γ l yX10_isNew cX10_isNew 5 (some .boolean) { frames := 1, cells := 0, slots := 0, locals := 25 } [.ref (L (.inl 0)), .int b, .long v] L (rM Γ L (sH x (h, d))) (mQi Γ (mHand Γ L x (p_new (h, d) b v))) := by
  refine m_start (by decide) (Nat.le_of_ble_eq_true rfl) ?_
  intro p e s m args below meth c A ls X hr hlk hnm hw hS hl
  have hx := X.1.1
  have hb := X.1.2.1
  have hl : lv_has ls 5 [(0, .ref (L (.inl 0))), (1, .int b), (2, .long v)] := hl
  have K53 : ∀ (u t : Nat) (j : Int32) (H : Heap) (locs : List Loc) (ls : Array Slot), t + u = 8 → j = nI t → r_isIn v 1 5 = true → p_holds h (100 + b) d = false → mW Γ.1 vwCl A L (rM Γ L (sH x (p_repl h (100 + b) 0 t, d))) H → va_S A s.heap H locs → lv_has ls 5 [(4, .int j), (0, .ref (L (.inl 0))), (1, .int b), (2, .long v)] → W p l e { frames := 1, cells := 0, slots := 0, locals := 25 } s m args below meth c H locs 0 0 (MQ below (mQi Γ (mHand Γ L x (p_new (h, d) b v)) A) args s 0 0 A) (F0 m 53 ls []) := by
    intro u
    induction u with
    | zero =>
      intro t j H locs ls ht hj h1 h2 hw hS hl
      refine lv_iload hx hb dX10_isNew_53 (lv_at hl 0 rfl) ?_
      refine lv_bipush (v := 8) hx hb dX10_isNew_55 (by decide) ?_
      refine lv_icmp_ge (tgt := 98) hx hb dX10_isNew_57 (by decide) (fun c_1 => ?_) (fun c_1 => ?_)
      · skip
        have c_1n : t ≥ 8 := ngeT (a := t) (b := 8) hj rfl (by omega) (by omega) c_1
        have c_1m : ¬ t < 8 := by omega
        refine lv_aload_n hx hb dX10_isNew_98 rfl (lv_at hl 1 rfl) ?_
        refine lv_bipush (v := 100) hx hb dX10_isNew_99 (by decide) ?_
        refine lv_iload_n hx hb dX10_isNew_101 rfl (lv_at hl 2 rfl) ?_
        refine lv_iadd hx hb dX10_isNew_102 ?_
        refine m_calli (m_runV (i := .inl 0) (ci := 8) (As := [.int (100 + b)]) (rest := []) X (k_X10_push Γ l L x (p_repl h (100 + b) 0 t) d (100 + b) (by omega)) v_X10_push ml_X10_148 hw hS rfl rfl rfl rfl hl.1 ⟨Nat.le_of_ble_eq_true rfl, Nat.le_of_ble_eq_true rfl⟩ (Nat.le_of_ble_eq_true rfl) ⟨Nat.le_of_ble_eq_true rfl, Nat.le_of_ble_eq_true rfl⟩ dX10_isNew_103) hS (fun r_3 L1 M1 H locs hp_2 hw hS => ?_)
        obtain ⟨q_3, e1, e2, e3⟩ := hp_2
        rw [e1, e2] at hw; clear e1 e2
        rcases ho_3 : p_push ((p_repl h (100 + b) 0 t), d) (100 + b) with _ | ⟨h_3, d_3⟩
        · rw [ho_3] at e3; subst e3
          exact m_zret (b := false) X hr hlk hw hS (Nat.zero_le _) (Nat.zero_le _) rfl ⟨(q_3.1, q_3.2), rfl, rfl, by clear hb hx hl hS hw hnm hlk hr X; first | exact absurd ht (by omega) | (have e : t + 1 + u = d := (by omega); have e2 := p_holds_mono (by assumption) u; rw [e] at e2; simp [p_new, h1, e2, bI]; done) | (have e8 : t = 8 := (by omega); subst e8; simp_all [p_new, bI]; done) | (simp_all [bI, Nat.pos_iff_ne_zero, p_new]; done)⟩ dX10_isNew_106
        · rw [ho_3] at e3; obtain ⟨e3, e4⟩ := e3; subst e3; subst e4
          have hd_3 := p_push_le ho_3 (by omega)
          exact m_zret (b := true) X hr hlk hw hS (Nat.zero_le _) (Nat.zero_le _) rfl ⟨(h_3, d_3), rfl, rfl, by clear hb hx hl hS hw hnm hlk hr X; first | exact absurd ht (by omega) | (have e : t + 1 + u = d := (by omega); have e2 := p_holds_mono (by assumption) u; rw [e] at e2; simp [p_new, h1, e2, bI]; done) | (have e8 : t = 8 := (by omega); subst e8; simp_all [p_new, bI]; done) | (simp_all [bI, Nat.pos_iff_ne_zero, p_new]; done)⟩ dX10_isNew_106
      · skip
        have c_1n : ¬ t ≥ 8 := ngeF (a := t) (b := 8) hj rfl (by omega) (by omega) c_1
        have c_1m : t < 8 := by omega
        refine lv_aload_n hx hb dX10_isNew_60 rfl (lv_at hl 1 rfl) ?_
        refine r_get14 X hw dX10_isNew_61 ?_
        refine lv_iload hx hb dX10_isNew_64 (lv_at hl 0 rfl) ?_
        refine lv_aload_n hx hb dX10_isNew_66 rfl (lv_at hl 1 rfl) ?_
        refine r_get14 X hw dX10_isNew_67 ?_
        refine lv_iload hx hb dX10_isNew_70 (lv_at hl 0 rfl) ?_
        refine h_ald14 X hw hj (by omega) dX10_isNew_72 ?_
        refine lv_bipush (v := 100) hx hb dX10_isNew_73 (by decide) ?_
        refine lv_iload_n hx hb dX10_isNew_75 rfl (lv_at hl 2 rfl) ?_
        refine lv_iadd hx hb dX10_isNew_76 ?_
        refine lv_icmp_ne (tgt := 84) hx hb dX10_isNew_77 (by decide) (fun c_4 => ?_) (fun c_4 => ?_)
        · skip
          refine lv_aload_n hx hb dX10_isNew_84 rfl (lv_at hl 1 rfl) ?_
          refine r_get14 X hw dX10_isNew_85 ?_
          refine lv_iload hx hb dX10_isNew_88 (lv_at hl 0 rfl) ?_
          refine h_ald14 X hw hj (by omega) dX10_isNew_90 ?_
          refine h_ast14 X hw hS hj (by omega) dX10_isNew_91 (fun H locs hw hS => ?_)
          refine lv_iinc (v := j + 1) (lv' := [(4, .int (j + 1)), (0, .ref (L (.inl 0))), (1, .int b), (2, .long v)]) hx hb dX10_isNew_92 hl (k := 0) rfl rfl (by decide) rfl (fun ls hl => ?_)
          refine lv_goto (tgt := 53) hx hb dX10_isNew_95 (by decide) ?_
          exact absurd ht (by omega)
        · skip
          refine lv_iconst (v := 0) hx hb dX10_isNew_80 (by decide) ?_
          refine lv_goto (tgt := 91) hx hb dX10_isNew_81 (by decide) ?_
          refine h_ast14 X hw hS hj (by omega) dX10_isNew_91 (fun H locs hw hS => ?_)
          refine lv_iinc (v := j + 1) (lv' := [(4, .int (j + 1)), (0, .ref (L (.inl 0))), (1, .int b), (2, .long v)]) hx hb dX10_isNew_92 hl (k := 0) rfl rfl (by decide) rfl (fun ls hl => ?_)
          refine lv_goto (tgt := 53) hx hb dX10_isNew_95 (by decide) ?_
          exact absurd ht (by omega)
    | succ u ih =>
      intro t j H locs ls ht hj h1 h2 hw hS hl
      refine lv_iload hx hb dX10_isNew_53 (lv_at hl 0 rfl) ?_
      refine lv_bipush (v := 8) hx hb dX10_isNew_55 (by decide) ?_
      refine lv_icmp_ge (tgt := 98) hx hb dX10_isNew_57 (by decide) (fun c_5 => ?_) (fun c_5 => ?_)
      · skip
        have c_5n : t ≥ 8 := ngeT (a := t) (b := 8) hj rfl (by omega) (by omega) c_5
        have c_5m : ¬ t < 8 := by omega
        refine lv_aload_n hx hb dX10_isNew_98 rfl (lv_at hl 1 rfl) ?_
        refine lv_bipush (v := 100) hx hb dX10_isNew_99 (by decide) ?_
        refine lv_iload_n hx hb dX10_isNew_101 rfl (lv_at hl 2 rfl) ?_
        refine lv_iadd hx hb dX10_isNew_102 ?_
        refine m_calli (m_runV (i := .inl 0) (ci := 8) (As := [.int (100 + b)]) (rest := []) X (k_X10_push Γ l L x (p_repl h (100 + b) 0 t) d (100 + b) (by omega)) v_X10_push ml_X10_148 hw hS rfl rfl rfl rfl hl.1 ⟨Nat.le_of_ble_eq_true rfl, Nat.le_of_ble_eq_true rfl⟩ (Nat.le_of_ble_eq_true rfl) ⟨Nat.le_of_ble_eq_true rfl, Nat.le_of_ble_eq_true rfl⟩ dX10_isNew_103) hS (fun r_7 L1 M1 H locs hp_6 hw hS => ?_)
        obtain ⟨q_7, e1, e2, e3⟩ := hp_6
        rw [e1, e2] at hw; clear e1 e2
        rcases ho_7 : p_push ((p_repl h (100 + b) 0 t), d) (100 + b) with _ | ⟨h_7, d_7⟩
        · rw [ho_7] at e3; subst e3
          exact m_zret (b := false) X hr hlk hw hS (Nat.zero_le _) (Nat.zero_le _) rfl ⟨(q_7.1, q_7.2), rfl, rfl, by clear ih hb hx hl hS hw hnm hlk hr X; first | exact absurd ht (by omega) | (have e : t + 1 + u = d := (by omega); have e2 := p_holds_mono (by assumption) u; rw [e] at e2; simp [p_new, h1, e2, bI]; done) | (have e8 : t = 8 := (by omega); subst e8; simp_all [p_new, bI]; done) | (simp_all [bI, Nat.pos_iff_ne_zero, p_new]; done)⟩ dX10_isNew_106
        · rw [ho_7] at e3; obtain ⟨e3, e4⟩ := e3; subst e3; subst e4
          have hd_7 := p_push_le ho_7 (by omega)
          exact m_zret (b := true) X hr hlk hw hS (Nat.zero_le _) (Nat.zero_le _) rfl ⟨(h_7, d_7), rfl, rfl, by clear ih hb hx hl hS hw hnm hlk hr X; first | exact absurd ht (by omega) | (have e : t + 1 + u = d := (by omega); have e2 := p_holds_mono (by assumption) u; rw [e] at e2; simp [p_new, h1, e2, bI]; done) | (have e8 : t = 8 := (by omega); subst e8; simp_all [p_new, bI]; done) | (simp_all [bI, Nat.pos_iff_ne_zero, p_new]; done)⟩ dX10_isNew_106
      · skip
        have c_5n : ¬ t ≥ 8 := ngeF (a := t) (b := 8) hj rfl (by omega) (by omega) c_5
        have c_5m : t < 8 := by omega
        refine lv_aload_n hx hb dX10_isNew_60 rfl (lv_at hl 1 rfl) ?_
        refine r_get14 X hw dX10_isNew_61 ?_
        refine lv_iload hx hb dX10_isNew_64 (lv_at hl 0 rfl) ?_
        refine lv_aload_n hx hb dX10_isNew_66 rfl (lv_at hl 1 rfl) ?_
        refine r_get14 X hw dX10_isNew_67 ?_
        refine lv_iload hx hb dX10_isNew_70 (lv_at hl 0 rfl) ?_
        refine h_ald14 X hw hj (by omega) dX10_isNew_72 ?_
        refine lv_bipush (v := 100) hx hb dX10_isNew_73 (by decide) ?_
        refine lv_iload_n hx hb dX10_isNew_75 rfl (lv_at hl 2 rfl) ?_
        refine lv_iadd hx hb dX10_isNew_76 ?_
        refine lv_icmp_ne (tgt := 84) hx hb dX10_isNew_77 (by decide) (fun c_8 => ?_) (fun c_8 => ?_)
        · skip
          refine lv_aload_n hx hb dX10_isNew_84 rfl (lv_at hl 1 rfl) ?_
          refine r_get14 X hw dX10_isNew_85 ?_
          refine lv_iload hx hb dX10_isNew_88 (lv_at hl 0 rfl) ?_
          refine h_ald14 X hw hj (by omega) dX10_isNew_90 ?_
          refine h_ast14 X hw hS hj (by omega) dX10_isNew_91 (fun H locs hw hS => ?_)
          refine lv_iinc (v := j + 1) (lv' := [(4, .int (j + 1)), (0, .ref (L (.inl 0))), (1, .int b), (2, .long v)]) hx hb dX10_isNew_92 hl (k := 0) rfl rfl (by decide) rfl (fun ls hl => ?_)
          refine lv_goto (tgt := 53) hx hb dX10_isNew_95 (by decide) ?_
          exact ih (t + 1) _ H locs ls (by omega) (nadd (a := t) (b := 1) hj rfl) h1 h2 (by rw [p_repl_at] at c_8; rw [← p_repl_miss c_8]; exact hw) hS hl
        · skip
          refine lv_iconst (v := 0) hx hb dX10_isNew_80 (by decide) ?_
          refine lv_goto (tgt := 91) hx hb dX10_isNew_81 (by decide) ?_
          refine h_ast14 X hw hS hj (by omega) dX10_isNew_91 (fun H locs hw hS => ?_)
          refine lv_iinc (v := j + 1) (lv' := [(4, .int (j + 1)), (0, .ref (L (.inl 0))), (1, .int b), (2, .long v)]) hx hb dX10_isNew_92 hl (k := 0) rfl rfl (by decide) rfl (fun ls hl => ?_)
          refine lv_goto (tgt := 53) hx hb dX10_isNew_95 (by decide) ?_
          exact ih (t + 1) _ H locs ls (by omega) (nadd (a := t) (b := 1) hj rfl) h1 h2 (by rw [p_repl_at] at c_8; rw [← p_repl_hit c_8]; exact hw) hS hl
  have K16 : ∀ (u t : Nat) (j : Int32) (H : Heap) (locs : List Loc) (ls : Array Slot), t + u = d → j = nI t → r_isIn v 1 5 = true → p_holds h (100 + b) t = false → mW Γ.1 vwCl A L (rM Γ L (sH x (h, d))) H → va_S A s.heap H locs → lv_has ls 5 [(4, .int j), (0, .ref (L (.inl 0))), (1, .int b), (2, .long v)] → W p l e { frames := 1, cells := 0, slots := 0, locals := 25 } s m args below meth c H locs 0 0 (MQ below (mQi Γ (mHand Γ L x (p_new (h, d) b v)) A) args s 0 0 A) (F0 m 16 ls []) := by
    intro u
    induction u with
    | zero =>
      intro t j H locs ls ht hj h1 h2 hw hS hl
      refine lv_iload hx hb dX10_isNew_16 (lv_at hl 0 rfl) ?_
      refine lv_aload_n hx hb dX10_isNew_18 rfl (lv_at hl 1 rfl) ?_
      refine h_get15 X hw dX10_isNew_19 ?_
      refine lv_icmp_ge (tgt := 50) hx hb dX10_isNew_22 (by decide) (fun c_9 => ?_) (fun c_9 => ?_)
      · skip
        have c_9n : t ≥ d := ngeT (a := t) (b := d) hj rfl (by omega) (by omega) c_9
        have c_9m : ¬ t < d := by omega
        refine lv_iconst (v := 0) hx hb dX10_isNew_50 (by decide) ?_
        refine lv_istore (lv' := [(4, .int 0), (0, .ref (L (.inl 0))), (1, .int b), (2, .long v)]) hx hb dX10_isNew_51 hl (by decide) rfl (fun ls hl => ?_)
        exact K53 8 0 _ _ _ ls rfl rfl h1 (by have e : t = d := (by omega); rw [← e]; exact h2) (by rw [p_repl_0]; exact hw) hS (lv_sub hl [0, 1, 2, 3] rfl)
      · skip
        have c_9n : ¬ t ≥ d := ngeF (a := t) (b := d) hj rfl (by omega) (by omega) c_9
        have c_9m : t < d := by omega
        refine lv_aload_n hx hb dX10_isNew_25 rfl (lv_at hl 1 rfl) ?_
        refine r_get14 X hw dX10_isNew_26 ?_
        refine lv_bipush (v := 8) hx hb dX10_isNew_29 (by decide) ?_
        refine lv_iload hx hb dX10_isNew_31 (lv_at hl 0 rfl) ?_
        refine lv_iadd hx hb dX10_isNew_33 ?_
        refine h_ald14 X hw (nadd (a := 8) (b := t) rfl hj) (by omega) dX10_isNew_34 ?_
        refine lv_bipush (v := 100) hx hb dX10_isNew_35 (by decide) ?_
        refine lv_iload_n hx hb dX10_isNew_37 rfl (lv_at hl 2 rfl) ?_
        refine lv_iadd hx hb dX10_isNew_38 ?_
        refine lv_icmp_ne (tgt := 44) hx hb dX10_isNew_39 (by decide) (fun c_10 => ?_) (fun c_10 => ?_)
        · skip
          refine lv_iinc (v := j + 1) (lv' := [(4, .int (j + 1)), (0, .ref (L (.inl 0))), (1, .int b), (2, .long v)]) hx hb dX10_isNew_44 hl (k := 0) rfl rfl (by decide) rfl (fun ls hl => ?_)
          refine lv_goto (tgt := 16) hx hb dX10_isNew_47 (by decide) ?_
          exact absurd ht (by omega)
        · skip
          refine lv_iconst (v := 0) hx hb dX10_isNew_42 (by decide) ?_
          exact m_zret (b := false) X hr hlk hw hS (Nat.zero_le _) (Nat.zero_le _) rfl ⟨(h, d), rfl, rfl, by clear K53 hb hx hl hS hw hnm hlk hr X; first | exact absurd ht (by omega) | (have e : t + 1 + u = d := (by omega); have e2 := p_holds_mono (by assumption) u; rw [e] at e2; simp [p_new, h1, e2, bI]; done) | (have e8 : t = 8 := (by omega); subst e8; simp_all [p_new, bI]; done) | (simp_all [bI, Nat.pos_iff_ne_zero, p_new]; done)⟩ dX10_isNew_43
    | succ u ih =>
      intro t j H locs ls ht hj h1 h2 hw hS hl
      refine lv_iload hx hb dX10_isNew_16 (lv_at hl 0 rfl) ?_
      refine lv_aload_n hx hb dX10_isNew_18 rfl (lv_at hl 1 rfl) ?_
      refine h_get15 X hw dX10_isNew_19 ?_
      refine lv_icmp_ge (tgt := 50) hx hb dX10_isNew_22 (by decide) (fun c_11 => ?_) (fun c_11 => ?_)
      · skip
        have c_11n : t ≥ d := ngeT (a := t) (b := d) hj rfl (by omega) (by omega) c_11
        have c_11m : ¬ t < d := by omega
        refine lv_iconst (v := 0) hx hb dX10_isNew_50 (by decide) ?_
        refine lv_istore (lv' := [(4, .int 0), (0, .ref (L (.inl 0))), (1, .int b), (2, .long v)]) hx hb dX10_isNew_51 hl (by decide) rfl (fun ls hl => ?_)
        exact K53 8 0 _ _ _ ls rfl rfl h1 (by have e : t = d := (by omega); rw [← e]; exact h2) (by rw [p_repl_0]; exact hw) hS (lv_sub hl [0, 1, 2, 3] rfl)
      · skip
        have c_11n : ¬ t ≥ d := ngeF (a := t) (b := d) hj rfl (by omega) (by omega) c_11
        have c_11m : t < d := by omega
        refine lv_aload_n hx hb dX10_isNew_25 rfl (lv_at hl 1 rfl) ?_
        refine r_get14 X hw dX10_isNew_26 ?_
        refine lv_bipush (v := 8) hx hb dX10_isNew_29 (by decide) ?_
        refine lv_iload hx hb dX10_isNew_31 (lv_at hl 0 rfl) ?_
        refine lv_iadd hx hb dX10_isNew_33 ?_
        refine h_ald14 X hw (nadd (a := 8) (b := t) rfl hj) (by omega) dX10_isNew_34 ?_
        refine lv_bipush (v := 100) hx hb dX10_isNew_35 (by decide) ?_
        refine lv_iload_n hx hb dX10_isNew_37 rfl (lv_at hl 2 rfl) ?_
        refine lv_iadd hx hb dX10_isNew_38 ?_
        refine lv_icmp_ne (tgt := 44) hx hb dX10_isNew_39 (by decide) (fun c_12 => ?_) (fun c_12 => ?_)
        · skip
          refine lv_iinc (v := j + 1) (lv' := [(4, .int (j + 1)), (0, .ref (L (.inl 0))), (1, .int b), (2, .long v)]) hx hb dX10_isNew_44 hl (k := 0) rfl rfl (by decide) rfl (fun ls hl => ?_)
          refine lv_goto (tgt := 16) hx hb dX10_isNew_47 (by decide) ?_
          exact ih (t + 1) _ H locs ls (by omega) (nadd (a := t) (b := 1) hj rfl) h1 (by simp [p_holds, h2, c_12]) hw hS hl
        · skip
          refine lv_iconst (v := 0) hx hb dX10_isNew_42 (by decide) ?_
          exact m_zret (b := false) X hr hlk hw hS (Nat.zero_le _) (Nat.zero_le _) rfl ⟨(h, d), rfl, rfl, by clear K53 ih hb hx hl hS hw hnm hlk hr X; first | exact absurd ht (by omega) | (have e : t + 1 + u = d := (by omega); have e2 := p_holds_mono (by assumption) u; rw [e] at e2; simp [p_new, h1, e2, bI]; done) | (have e8 : t = 8 := (by omega); subst e8; simp_all [p_new, bI]; done) | (simp_all [bI, Nat.pos_iff_ne_zero, p_new]; done)⟩ dX10_isNew_43
  refine lv_lload_n hx hb dX10_isNew_0 rfl (lv_at hl 2 rfl) ?_
  refine lv_lconst (v := 1) hx hb dX10_isNew_1 (by decide) ?_
  refine lv_ldc2 (v := (5)) hx hb X.1.2.2.2.1 (X.1.2.2.2.2 _ kl_X10_102) dX10_isNew_2 ?_
  refine m_calli (m_runS (As := [.long v, .long 1, .long (5)]) (rest := []) X (k_X10_isIn Γ l L (rM Γ L (sH x (h, d))) v 1 (5)) s_X10_isIn ml_X10_79 hw hS rfl hl.1 ⟨Nat.le_of_ble_eq_true rfl, Nat.le_of_ble_eq_true rfl⟩ (Nat.le_of_ble_eq_true rfl) ⟨Nat.le_of_ble_eq_true rfl, Nat.le_of_ble_eq_true rfl⟩ dX10_isNew_5) hS (fun r_14 L1 M1 H locs hp_13 hw hS => ?_)
  obtain ⟨rfl, e1, e2⟩ := hp_13
  rw [e1, e2] at hw; clear e1 e2
  refine lv_if_ne (tgt := 13) hx hb dX10_isNew_8 (by decide) (fun c_15 => ?_) (fun c_15 => ?_)
  · skip
    have c_15 := bI_t c_15
    refine lv_iconst (v := 0) hx hb dX10_isNew_13 (by decide) ?_
    refine lv_istore (lv' := [(4, .int 0), (0, .ref (L (.inl 0))), (1, .int b), (2, .long v)]) hx hb dX10_isNew_14 hl (by decide) rfl (fun ls hl => ?_)
    exact K16 d 0 _ _ _ ls (by omega) rfl (by assumption) rfl hw hS hl
  · skip
    have c_15 := bI_f c_15
    refine lv_iconst (v := 0) hx hb dX10_isNew_11 (by decide) ?_
    exact m_zret (b := false) X hr hlk hw hS (Nat.zero_le _) (Nat.zero_le _) rfl ⟨(h, d), rfl, rfl, by clear K53 K16 hb hx hl hS hw hnm hlk hr X; first | exact absurd ht (by omega) | (have e : t + 1 + u = d := (by omega); have e2 := p_holds_mono (by assumption) u; rw [e] at e2; simp [p_new, h1, e2, bI]; done) | (have e8 : t = 8 := (by omega); subst e8; simp_all [p_new, bI]; done) | (simp_all [bI, Nat.pos_iff_ne_zero, p_new]; done)⟩ dX10_isNew_12
theorem v_X10_isMade : mVm yX10_isMade cX10_isMade 7 (some .boolean) 2 := ⟨cd_X10_isMade, im_X10_isMade, se_X10_isMade, ini_X10, by decide, by decide, by decide +kernel⟩
set_option maxHeartbeats 4000000 in
set_option maxRecDepth 100000 in
theorem k_X10_isMade (Γ : mG) (l : Launch) (L : mI → Nat) (x : RS) (h : Nat → Int32) (d : Nat) (a : Int32) (v : Int64) (hd : d ≤ 8) (k om : Nat) (ha : a = nI k) (hk : k < 8) (hom : x.2.1 2 k = nI om) (ho40 : om ≤ 40) : mMet Γ l yX10_isMade cX10_isMade 7 (some .boolean) { frames := 1, cells := 0, slots := 0, locals := 25 } [.ref (L (.inl 0)), .int a, .long v] L (rM Γ L (sH x (h, d))) (mQi Γ (mHand Γ L x (p_made (fun j => x.2.1 3 (40 * k + j)) (fun j => x.2.2 4 (40 * k + j)) om (h, d) v))) := by
  refine m_start (by decide) (Nat.le_of_ble_eq_true rfl) ?_
  intro p e s m args below meth c A ls X hr hlk hnm hw hS hl
  have hx := X.1.1
  have hb := X.1.2.1
  have hl : lv_has ls 7 [(0, .ref (L (.inl 0))), (1, .int a), (2, .long v)] := hl
  have K109 : ∀ (u t : Nat) (w j : Int32) (H : Heap) (locs : List Loc) (ls : Array Slot), t + u = 8 + (d - 1) → j = nI t → ¬ d = 0 → p_made (fun j => x.2.1 3 (40 * k + j)) (fun j => x.2.2 4 (40 * k + j)) om (h, d) v = some (p_repl h (h (7 + d)) (10 + v.toInt32) (8 + (d - 1)), d - 1) → mW Γ.1 vwCl A L (rM Γ L (sH x (p_repl h (h (7 + d)) (10 + v.toInt32) t, d - 1))) H → va_S A s.heap H locs → lv_has ls 7 [(6, .int j), (5, .int w), (4, .int (h (7 + d))), (0, .ref (L (.inl 0))), (1, .int a), (2, .long v)] → W p l e { frames := 1, cells := 0, slots := 0, locals := 25 } s m args below meth c H locs 0 0 (MQ below (mQi Γ (mHand Γ L x (p_made (fun j => x.2.1 3 (40 * k + j)) (fun j => x.2.2 4 (40 * k + j)) om (h, d) v)) A) args s 0 0 A) (F0 m 109 ls []) := by
    intro u
    induction u with
    | zero =>
      intro t w j H locs ls ht hj h1 h2 hw hS hl
      refine lv_iload hx hb dX10_isMade_109 (lv_at hl 0 rfl) ?_
      refine lv_bipush (v := 8) hx hb dX10_isMade_111 (by decide) ?_
      refine lv_aload_n hx hb dX10_isMade_113 rfl (lv_at hl 3 rfl) ?_
      refine h_get15 X hw dX10_isMade_114 ?_
      refine lv_iadd hx hb dX10_isMade_117 ?_
      refine lv_icmp_ge (tgt := 161) hx hb dX10_isMade_118 (by decide) (fun c_1 => ?_) (fun c_1 => ?_)
      · skip
        have c_1n : t ≥ (8 + (d - 1)) := ngeT (a := t) (b := 8 + (d - 1)) hj (nadd (a := 8) (b := d - 1) rfl rfl) (by omega) (by omega) c_1
        have c_1m : ¬ t < (8 + (d - 1)) := by omega
        refine lv_iconst (v := 1) hx hb dX10_isMade_161 (by decide) ?_
        exact m_zret (b := true) X hr hlk hw hS (Nat.zero_le _) (Nat.zero_le _) rfl ⟨(p_repl h (h (7 + d)) (10 + v.toInt32) t, d - 1), rfl, rfl, by clear hb hx hl hS hw hnm hlk hr X; first | exact absurd ht (by omega) | (have e8 : t = 8 + (d - 1) := (by omega); subst e8; rw [h2]; exact ⟨rfl, rfl⟩) | (simp only [p_made]; rw [if_neg (by intro z; obtain ⟨z1, z2, z3, z4, z5⟩ := z; simp_all)]; rfl) | (simp_all [bI, Nat.pos_iff_ne_zero, p_made]; done)⟩ dX10_isMade_162
      · skip
        have c_1n : ¬ t ≥ (8 + (d - 1)) := ngeF (a := t) (b := 8 + (d - 1)) hj (nadd (a := 8) (b := d - 1) rfl rfl) (by omega) (by omega) c_1
        have c_1m : t < (8 + (d - 1)) := by omega
        refine lv_aload_n hx hb dX10_isMade_121 rfl (lv_at hl 3 rfl) ?_
        refine r_get14 X hw dX10_isMade_122 ?_
        refine lv_iload hx hb dX10_isMade_125 (lv_at hl 0 rfl) ?_
        refine lv_aload_n hx hb dX10_isMade_127 rfl (lv_at hl 3 rfl) ?_
        refine r_get14 X hw dX10_isMade_128 ?_
        refine lv_iload hx hb dX10_isMade_131 (lv_at hl 0 rfl) ?_
        refine h_ald14 X hw hj (by omega) dX10_isMade_133 ?_
        refine lv_iload hx hb dX10_isMade_134 (lv_at hl 2 rfl) ?_
        refine lv_icmp_ne (tgt := 147) hx hb dX10_isMade_136 (by decide) (fun c_2 => ?_) (fun c_2 => ?_)
        · skip
          refine lv_aload_n hx hb dX10_isMade_147 rfl (lv_at hl 3 rfl) ?_
          refine r_get14 X hw dX10_isMade_148 ?_
          refine lv_iload hx hb dX10_isMade_151 (lv_at hl 0 rfl) ?_
          refine h_ald14 X hw hj (by omega) dX10_isMade_153 ?_
          refine h_ast14 X hw hS hj (by omega) dX10_isMade_154 (fun H locs hw hS => ?_)
          refine lv_iinc (v := j + 1) (lv' := [(6, .int (j + 1)), (5, .int w), (4, .int (h (7 + d))), (0, .ref (L (.inl 0))), (1, .int a), (2, .long v)]) hx hb dX10_isMade_155 hl (k := 0) rfl rfl (by decide) rfl (fun ls hl => ?_)
          refine lv_goto (tgt := 109) hx hb dX10_isMade_158 (by decide) ?_
          exact absurd ht (by omega)
        · skip
          refine lv_bipush (v := 10) hx hb dX10_isMade_139 (by decide) ?_
          refine lv_lload_n hx hb dX10_isMade_141 rfl (lv_at hl 5 rfl) ?_
          refine lv_l2i (v := v.toInt32) hx hb dX10_isMade_142 rfl ?_
          refine lv_iadd hx hb dX10_isMade_143 ?_
          refine lv_goto (tgt := 154) hx hb dX10_isMade_144 (by decide) ?_
          refine h_ast14 X hw hS hj (by omega) dX10_isMade_154 (fun H locs hw hS => ?_)
          refine lv_iinc (v := j + 1) (lv' := [(6, .int (j + 1)), (5, .int w), (4, .int (h (7 + d))), (0, .ref (L (.inl 0))), (1, .int a), (2, .long v)]) hx hb dX10_isMade_155 hl (k := 0) rfl rfl (by decide) rfl (fun ls hl => ?_)
          refine lv_goto (tgt := 109) hx hb dX10_isMade_158 (by decide) ?_
          exact absurd ht (by omega)
    | succ u ih =>
      intro t w j H locs ls ht hj h1 h2 hw hS hl
      refine lv_iload hx hb dX10_isMade_109 (lv_at hl 0 rfl) ?_
      refine lv_bipush (v := 8) hx hb dX10_isMade_111 (by decide) ?_
      refine lv_aload_n hx hb dX10_isMade_113 rfl (lv_at hl 3 rfl) ?_
      refine h_get15 X hw dX10_isMade_114 ?_
      refine lv_iadd hx hb dX10_isMade_117 ?_
      refine lv_icmp_ge (tgt := 161) hx hb dX10_isMade_118 (by decide) (fun c_3 => ?_) (fun c_3 => ?_)
      · skip
        have c_3n : t ≥ (8 + (d - 1)) := ngeT (a := t) (b := 8 + (d - 1)) hj (nadd (a := 8) (b := d - 1) rfl rfl) (by omega) (by omega) c_3
        have c_3m : ¬ t < (8 + (d - 1)) := by omega
        refine lv_iconst (v := 1) hx hb dX10_isMade_161 (by decide) ?_
        exact m_zret (b := true) X hr hlk hw hS (Nat.zero_le _) (Nat.zero_le _) rfl ⟨(p_repl h (h (7 + d)) (10 + v.toInt32) t, d - 1), rfl, rfl, by clear ih hb hx hl hS hw hnm hlk hr X; first | exact absurd ht (by omega) | (have e8 : t = 8 + (d - 1) := (by omega); subst e8; rw [h2]; exact ⟨rfl, rfl⟩) | (simp only [p_made]; rw [if_neg (by intro z; obtain ⟨z1, z2, z3, z4, z5⟩ := z; simp_all)]; rfl) | (simp_all [bI, Nat.pos_iff_ne_zero, p_made]; done)⟩ dX10_isMade_162
      · skip
        have c_3n : ¬ t ≥ (8 + (d - 1)) := ngeF (a := t) (b := 8 + (d - 1)) hj (nadd (a := 8) (b := d - 1) rfl rfl) (by omega) (by omega) c_3
        have c_3m : t < (8 + (d - 1)) := by omega
        refine lv_aload_n hx hb dX10_isMade_121 rfl (lv_at hl 3 rfl) ?_
        refine r_get14 X hw dX10_isMade_122 ?_
        refine lv_iload hx hb dX10_isMade_125 (lv_at hl 0 rfl) ?_
        refine lv_aload_n hx hb dX10_isMade_127 rfl (lv_at hl 3 rfl) ?_
        refine r_get14 X hw dX10_isMade_128 ?_
        refine lv_iload hx hb dX10_isMade_131 (lv_at hl 0 rfl) ?_
        refine h_ald14 X hw hj (by omega) dX10_isMade_133 ?_
        refine lv_iload hx hb dX10_isMade_134 (lv_at hl 2 rfl) ?_
        refine lv_icmp_ne (tgt := 147) hx hb dX10_isMade_136 (by decide) (fun c_4 => ?_) (fun c_4 => ?_)
        · skip
          refine lv_aload_n hx hb dX10_isMade_147 rfl (lv_at hl 3 rfl) ?_
          refine r_get14 X hw dX10_isMade_148 ?_
          refine lv_iload hx hb dX10_isMade_151 (lv_at hl 0 rfl) ?_
          refine h_ald14 X hw hj (by omega) dX10_isMade_153 ?_
          refine h_ast14 X hw hS hj (by omega) dX10_isMade_154 (fun H locs hw hS => ?_)
          refine lv_iinc (v := j + 1) (lv' := [(6, .int (j + 1)), (5, .int w), (4, .int (h (7 + d))), (0, .ref (L (.inl 0))), (1, .int a), (2, .long v)]) hx hb dX10_isMade_155 hl (k := 0) rfl rfl (by decide) rfl (fun ls hl => ?_)
          refine lv_goto (tgt := 109) hx hb dX10_isMade_158 (by decide) ?_
          exact ih (t + 1) w _ H locs ls (by omega) (nadd (a := t) (b := 1) hj rfl) h1 h2 (by rw [p_repl_at] at c_4; rw [← p_repl_miss c_4]; exact hw) hS hl
        · skip
          refine lv_bipush (v := 10) hx hb dX10_isMade_139 (by decide) ?_
          refine lv_lload_n hx hb dX10_isMade_141 rfl (lv_at hl 5 rfl) ?_
          refine lv_l2i (v := v.toInt32) hx hb dX10_isMade_142 rfl ?_
          refine lv_iadd hx hb dX10_isMade_143 ?_
          refine lv_goto (tgt := 154) hx hb dX10_isMade_144 (by decide) ?_
          refine h_ast14 X hw hS hj (by omega) dX10_isMade_154 (fun H locs hw hS => ?_)
          refine lv_iinc (v := j + 1) (lv' := [(6, .int (j + 1)), (5, .int w), (4, .int (h (7 + d))), (0, .ref (L (.inl 0))), (1, .int a), (2, .long v)]) hx hb dX10_isMade_155 hl (k := 0) rfl rfl (by decide) rfl (fun ls hl => ?_)
          refine lv_goto (tgt := 109) hx hb dX10_isMade_158 (by decide) ?_
          exact ih (t + 1) w _ H locs ls (by omega) (nadd (a := t) (b := 1) hj rfl) h1 h2 (by rw [p_repl_at] at c_4; rw [← p_repl_hit c_4]; exact hw) hS hl
  refine lv_lload_n hx hb dX10_isMade_0 rfl (lv_at hl 2 rfl) ?_
  refine lv_lconst (v := 1) hx hb dX10_isMade_1 (by decide) ?_
  refine lv_ldc2 (v := (5)) hx hb X.1.2.2.2.1 (X.1.2.2.2.2 _ kl_X10_102) dX10_isMade_2 ?_
  refine m_calli (m_runS (As := [.long v, .long 1, .long (5)]) (rest := []) X (k_X10_isIn Γ l L (rM Γ L (sH x (h, d))) v 1 (5)) s_X10_isIn ml_X10_79 hw hS rfl hl.1 ⟨Nat.le_of_ble_eq_true rfl, Nat.le_of_ble_eq_true rfl⟩ (Nat.le_of_ble_eq_true rfl) ⟨Nat.le_of_ble_eq_true rfl, Nat.le_of_ble_eq_true rfl⟩ dX10_isMade_5) hS (fun r_6 L1 M1 H locs hp_5 hw hS => ?_)
  obtain ⟨rfl, e1, e2⟩ := hp_5
  rw [e1, e2] at hw; clear e1 e2
  refine lv_if_eq (tgt := 18) hx hb dX10_isMade_8 (by decide) (fun c_7 => ?_) (fun c_7 => ?_)
  · skip
    have c_7 := bI_f c_7
    refine lv_iconst (v := 0) hx hb dX10_isMade_18 (by decide) ?_
    exact m_zret (b := false) X hr hlk hw hS (Nat.zero_le _) (Nat.zero_le _) rfl ⟨(h, d), rfl, rfl, by clear K109 hb hx hl hS hw hnm hlk hr X; first | exact absurd ht (by omega) | (have e8 : t = 8 + (d - 1) := (by omega); subst e8; rw [h2]; exact ⟨rfl, rfl⟩) | (simp only [p_made]; rw [if_neg (by intro z; obtain ⟨z1, z2, z3, z4, z5⟩ := z; simp_all)]; rfl) | (simp_all [bI, Nat.pos_iff_ne_zero, p_made]; done)⟩ dX10_isMade_19
  · skip
    have c_7 := bI_t c_7
    refine lv_aload_n hx hb dX10_isMade_11 rfl (lv_at hl 0 rfl) ?_
    refine h_get15 X hw dX10_isMade_12 ?_
    refine lv_if_ne (tgt := 20) hx hb dX10_isMade_15 (by decide) (fun c_8 => ?_) (fun c_8 => ?_)
    · skip
      have c_8n : ¬ d = 0 := nneT (a := d) (b := 0) rfl rfl (by omega) (by omega) c_8
      refine lv_aload_n hx hb dX10_isMade_20 rfl (lv_at hl 0 rfl) ?_
      refine r_get14 X hw dX10_isMade_21 ?_
      refine lv_bipush (v := 7) hx hb dX10_isMade_24 (by decide) ?_
      refine lv_aload_n hx hb dX10_isMade_26 rfl (lv_at hl 0 rfl) ?_
      refine h_get15 X hw dX10_isMade_27 ?_
      refine lv_iadd hx hb dX10_isMade_30 ?_
      refine h_ald14 X hw (nadd (a := 7) (b := d) rfl rfl) (by omega) dX10_isMade_31 ?_
      refine lv_istore (lv' := [(4, .int (h (7 + d))), (0, .ref (L (.inl 0))), (1, .int a), (2, .long v)]) hx hb dX10_isMade_32 hl (by decide) rfl (fun ls hl => ?_)
      refine lv_iload hx hb dX10_isMade_34 (lv_at hl 0 rfl) ?_
      refine lv_bipush (v := 100) hx hb dX10_isMade_36 (by decide) ?_
      refine lv_isub hx hb dX10_isMade_38 ?_
      refine lv_topi (fun w ew => ?_)
      refine lv_istore (lv' := [(5, .int w), (4, .int (h (7 + d))), (0, .ref (L (.inl 0))), (1, .int a), (2, .long v)]) hx hb dX10_isMade_39 hl (by decide) rfl (fun ls hl => ?_)
      refine lv_iload hx hb dX10_isMade_41 (lv_at hl 0 rfl) ?_
      refine lv_i2l (v := w.toInt64) hx hb dX10_isMade_43 rfl ?_
      refine lv_lconst (v := 0) hx hb dX10_isMade_44 (by decide) ?_
      refine lv_aload_n hx hb dX10_isMade_45 rfl (lv_at hl 2 rfl) ?_
      refine r_get2 X hw dX10_isMade_46 ?_
      refine lv_iload_n hx hb dX10_isMade_49 rfl (lv_at hl 3 rfl) ?_
      refine h_ald2 X hw ha (by omega) dX10_isMade_50 ?_
      refine lv_iconst (v := 1) hx hb dX10_isMade_51 (by decide) ?_
      refine lv_isub hx hb dX10_isMade_52 ?_
      refine lv_i2l (v := ((x.2.1 2 k) - 1).toInt64) hx hb dX10_isMade_53 rfl ?_
      refine m_calli (m_runS (As := [.long w.toInt64, .long 0, .long (((x.2.1 2 k) - 1).toInt64)]) (rest := []) X (k_X10_isIn Γ l L (rM Γ L (sH x (h, d))) w.toInt64 0 (((x.2.1 2 k) - 1).toInt64)) s_X10_isIn ml_X10_79 hw hS rfl hl.1 ⟨Nat.le_of_ble_eq_true rfl, Nat.le_of_ble_eq_true rfl⟩ (Nat.le_of_ble_eq_true rfl) ⟨Nat.le_of_ble_eq_true rfl, Nat.le_of_ble_eq_true rfl⟩ dX10_isMade_54) hS (fun r_10 L1 M1 H locs hp_9 hw hS => ?_)
      obtain ⟨rfl, e1, e2⟩ := hp_9
      rw [e1, e2] at hw; clear e1 e2
      refine lv_if_eq (tgt := 94) hx hb dX10_isMade_57 (by decide) (fun c_11 => ?_) (fun c_11 => ?_)
      · skip
        have c_11 := bI_f c_11
        rw [hom, isM_eq2 (by omega)] at c_11
        refine lv_iconst (v := 0) hx hb dX10_isMade_94 (by decide) ?_
        exact m_zret (b := false) X hr hlk hw hS (Nat.zero_le _) (Nat.zero_le _) rfl ⟨(h, d), rfl, rfl, by clear K109 hb hx hl hS hw hnm hlk hr X; first | exact absurd ht (by omega) | (have e8 : t = 8 + (d - 1) := (by omega); subst e8; rw [h2]; exact ⟨rfl, rfl⟩) | (simp only [p_made]; rw [if_neg (by intro z; obtain ⟨z1, z2, z3, z4, z5⟩ := z; simp_all)]; rfl) | (simp_all [bI, Nat.pos_iff_ne_zero, p_made]; done)⟩ dX10_isMade_95
      · skip
        have c_11 := bI_t c_11
        rw [hom, isM_eq2 (by omega)] at c_11
        have c_110 := c_11
        obtain ⟨kk, hkk, rfl⟩ := isM_nat c_110
        have hc_kk : (nI kk).toNatClampNeg = kk := nI_clamp (by omega)
        refine lv_aload_n hx hb dX10_isMade_60 rfl (lv_at hl 2 rfl) ?_
        refine r_get3 X hw dX10_isMade_61 ?_
        refine lv_bipush (v := 40) hx hb dX10_isMade_64 (by decide) ?_
        refine lv_iload_n hx hb dX10_isMade_66 rfl (lv_at hl 3 rfl) ?_
        refine lv_imul hx hb dX10_isMade_67 ?_
        refine lv_iload hx hb dX10_isMade_68 (lv_at hl 0 rfl) ?_
        refine lv_iadd hx hb dX10_isMade_70 ?_
        refine h_ald3 X hw (nadd (a := 40 * k) (b := kk) (nmul (a := 40) (b := k) rfl ha) rfl) (by omega) dX10_isMade_71 ?_
        refine lv_bipush (v := 12) hx hb dX10_isMade_72 (by decide) ?_
        refine lv_icmp_ne (tgt := 94) hx hb dX10_isMade_74 (by decide) (fun c_12 => ?_) (fun c_12 => ?_)
        · skip
          refine lv_iconst (v := 0) hx hb dX10_isMade_94 (by decide) ?_
          exact m_zret (b := false) X hr hlk hw hS (Nat.zero_le _) (Nat.zero_le _) rfl ⟨(h, d), rfl, rfl, by clear K109 hb hx hl hS hw hnm hlk hr X; first | exact absurd ht (by omega) | (have e8 : t = 8 + (d - 1) := (by omega); subst e8; rw [h2]; exact ⟨rfl, rfl⟩) | (simp only [p_made]; rw [if_neg (by intro z; obtain ⟨z1, z2, z3, z4, z5⟩ := z; simp_all)]; rfl) | (simp_all [bI, Nat.pos_iff_ne_zero, p_made]; done)⟩ dX10_isMade_95
        · skip
          refine lv_aload_n hx hb dX10_isMade_77 rfl (lv_at hl 2 rfl) ?_
          refine r_get4 X hw dX10_isMade_78 ?_
          refine lv_bipush (v := 40) hx hb dX10_isMade_81 (by decide) ?_
          refine lv_iload_n hx hb dX10_isMade_83 rfl (lv_at hl 3 rfl) ?_
          refine lv_imul hx hb dX10_isMade_84 ?_
          refine lv_iload hx hb dX10_isMade_85 (lv_at hl 0 rfl) ?_
          refine lv_iadd hx hb dX10_isMade_87 ?_
          refine h_ald4 X hw (nadd (a := 40 * k) (b := kk) (nmul (a := 40) (b := k) rfl ha) rfl) (by omega) dX10_isMade_88 ?_
          refine lv_lload_n hx hb dX10_isMade_89 rfl (lv_at hl 4 rfl) ?_
          refine m_lcmp_eq (tgt := 96) hx hb dX10_isMade_90 dX10_isMade_91 (by decide) (fun c_13 => ?_) (fun c_13 => ?_)
          · skip
            refine lv_aload_n hx hb dX10_isMade_96 rfl (lv_at hl 2 rfl) ?_
            refine lv_dup hx hb dX10_isMade_97 rfl ?_
            refine h_get15 X hw dX10_isMade_98 ?_
            refine lv_iconst (v := 1) hx hb dX10_isMade_101 (by decide) ?_
            refine lv_isub hx hb dX10_isMade_102 ?_
            refine h_put15 X hw hS (nsub (a := d) (b := 1) (by omega) rfl rfl) dX10_isMade_103 (fun H locs hw hS => ?_)
            refine lv_iconst (v := 0) hx hb dX10_isMade_106 (by decide) ?_
            refine lv_istore (lv' := [(6, .int 0), (5, .int (nI kk)), (4, .int (h (7 + d))), (0, .ref (L (.inl 0))), (1, .int a), (2, .long v)]) hx hb dX10_isMade_107 hl (by decide) rfl (fun ls hl => ?_)
            exact K109 (8 + (d - 1)) 0 _ _ _ _ ls (by omega) rfl (by assumption) (by clear K109 hb hx hl hS hw hnm hlk hr X; simp only [p_made]; rw [if_pos ⟨by assumption, by assumption, by rw [← ew]; assumption, by rw [← ew, hc_kk]; assumption, by rw [← ew, hc_kk]; assumption⟩]) (by rw [p_repl_0]; exact hw) hS hl
          · skip
            refine lv_iconst (v := 0) hx hb dX10_isMade_94 (by decide) ?_
            exact m_zret (b := false) X hr hlk hw hS (Nat.zero_le _) (Nat.zero_le _) rfl ⟨(h, d), rfl, rfl, by clear K109 hb hx hl hS hw hnm hlk hr X; first | exact absurd ht (by omega) | (have e8 : t = 8 + (d - 1) := (by omega); subst e8; rw [h2]; exact ⟨rfl, rfl⟩) | (simp only [p_made]; rw [if_neg (by intro z; obtain ⟨z1, z2, z3, z4, z5⟩ := z; simp_all)]; rfl) | (simp_all [bI, Nat.pos_iff_ne_zero, p_made]; done)⟩ dX10_isMade_95
    · skip
      have c_8n : d = 0 := nneF (a := d) (b := 0) rfl rfl (by omega) (by omega) c_8
      refine lv_iconst (v := 0) hx hb dX10_isMade_18 (by decide) ?_
      exact m_zret (b := false) X hr hlk hw hS (Nat.zero_le _) (Nat.zero_le _) rfl ⟨(h, d), rfl, rfl, by clear K109 hb hx hl hS hw hnm hlk hr X; first | exact absurd ht (by omega) | (have e8 : t = 8 + (d - 1) := (by omega); subst e8; rw [h2]; exact ⟨rfl, rfl⟩) | (simp only [p_made]; rw [if_neg (by intro z; obtain ⟨z1, z2, z3, z4, z5⟩ := z; simp_all)]; rfl) | (simp_all [bI, Nat.pos_iff_ne_zero, p_made]; done)⟩ dX10_isMade_19
