/-! the second half of what instructions do -/
def p_top (q : PL) : Int32 := if 0 < q.2 then q.1 (7 + q.2) else 0
def p_drop (q : PL) : PL := (q.1, q.2 - 1)
def p_isRowN (k : Int32) : Bool := r_isRow k || decide (k = 4)
def p_pops : Nat → PL → Option PL
  | 0, q => some q
  | n + 1, q => (p_pops n q).bind (fun z => p_pop z 1)
theorem p_pops_none {q : PL} {t : Nat} (h : p_pops t q = none) : ∀ u, p_pops (t + u) q = none
  | 0 => h
  | u + 1 => by show (p_pops (t + u) q).bind _ = none; rw [p_pops_none h u]; rfl
theorem p_pops_le {q : PL} (hq : q.2 ≤ 8) : ∀ {n : Nat} {z : PL}, p_pops n q = some z → z.2 ≤ 8
  | 0, z, h => by cases h; exact hq
  | n + 1, z, h => by
    cases h1 : p_pops n q with
    | none => rw [p_pops, h1] at h; cases h
    | some w => rw [p_pops, h1] at h; exact p_pop_le (q := w) h (p_pops_le hq h1)
def p_16 (q : PL) : Option PL := if p_top q = 5 ∨ p_isRowN (p_top q) = true then p_push (p_drop q) 1 else none
def p_17 (q : PL) : Option PL := (p_pop q 1).bind (fun z => (p_pop z 5).bind (fun w => p_push w 1))
def p_18 (q : PL) : Option PL := (p_pop q 1).bind (fun z => (p_pop z 1).bind (fun w => p_pop w 5))
def p_19 (q : PL) : Option PL := (p_pop q 1).bind (fun z => if ¬ z.2 = 0 ∧ p_isRowN (z.1 (7 + z.2)) = true then p_push (p_drop z) (if z.1 (7 + z.2) = 4 then 4 else 10 + z.1 (7 + z.2) - 20) else none)
def p_20 (q : PL) : Option PL := (p_pop q 10).bind (fun y => (p_pop y 1).bind (fun z => if ¬ z.2 = 0 ∧ p_isRowN (z.1 (7 + z.2)) = true then some (p_drop z) else none))
def p_21 (o : Int32) (v : Int64) (q : PL) : Option PL := if r_isIn v 0 7 = true then (p_pop q 10).bind (fun z => p_push z (if o = 21 then 10 + v.toInt32 else 1)) else none
def p_23 (q : PL) : Option PL := (p_pop q 11).bind (fun z => p_push z 1)
def p_24 (q : PL) : Option PL := (p_pop q 1).bind (fun z => p_pop z 11)
def p_26 (q : PL) : Option PL := if p_one q 0 = true then p_push q (q.1 (7 + q.2)) else none
def p_27 (q : PL) : Option PL := if p_one q 0 = true then some (p_drop q) else none
def p_28 (q : PL) : Option PL := if p_one q 0 = true ∧ p_one q 1 = true then some (upd (upd q.1 (7 + q.2) (q.1 (6 + q.2))) (6 + q.2) (q.1 (7 + q.2)), q.2) else none
def p_isL (n : Nat) (v : Int64) : Bool := r_isIn v 0 ((nI n - 1).toInt64)
def p_29 (om : Nat) (v : Int64) (q : PL) : Option PL := if p_isL om v = true then some q else none
def p_30 (om : Nat) (v : Int64) (k : Int32) (q : PL) : Option PL := if p_isL om v = true then p_pop q k else none
def p_33 (k : Nat) (pm : Nat → Nat) (v : Int64) (q : PL) : Option PL := if p_isL k v = true then (p_pops (pm v.toInt32.toNatClampNeg) q).bind (fun z => p_push z 1) else none
def p_more (k om : Nat) (pm : Nat → Nat) (o : Int32) (v : Int64) (q : PL) : Option PL := if o = 16 then p_16 q else if o = 17 then p_17 q else if o = 18 then p_18 q else if o = 19 then p_19 q else if o = 20 then p_20 q else if o = 21 ∨ o = 22 then p_21 o v q else if o = 23 ∨ o = 25 then p_23 q else if o = 24 then p_24 q else if o = 26 then p_26 q else if o = 27 then p_27 q else if o = 28 then p_28 q else if o = 29 then p_29 om v q else if o = 30 then p_30 om v 1 q else if o = 31 then p_30 om v 10 q else if o = 32 ∨ o = 34 then p_pop q 1 else if o = 33 then p_33 k pm v q else none
theorem p_more_out {k om : Nat} {pm : Nat → Nat} {o : Int32} {v : Int64} {q : PL} (h : o.toInt < 16 ∨ 34 < o.toInt) : p_more k om pm o v q = none := by
  have n : ∀ c : Int32, 16 ≤ c.toInt → c.toInt ≤ 34 → ¬ o = c := fun c h1 h2 e => by rw [e] at h; omega
  unfold p_more
  simp only [n 16 (by decide) (by decide), n 17 (by decide) (by decide), n 18 (by decide) (by decide), n 19 (by decide) (by decide), n 20 (by decide) (by decide), n 21 (by decide) (by decide), n 22 (by decide) (by decide), n 23 (by decide) (by decide), n 24 (by decide) (by decide), n 25 (by decide) (by decide), n 26 (by decide) (by decide), n 27 (by decide) (by decide), n 28 (by decide) (by decide), n 29 (by decide) (by decide), n 30 (by decide) (by decide), n 31 (by decide) (by decide), n 32 (by decide) (by decide), n 33 (by decide) (by decide), n 34 (by decide) (by decide), if_false, or_self]
theorem p_one_lt {q : PL} {n : Nat} (h : p_one q n = true) : n < q.2 := by
  unfold p_one at h
  exact of_decide_eq_true (Bool.and_eq_true_iff.mp h).1
theorem p_isL_nat {n : Nat} {v : Int64} (hn : n < 1000) (h : p_isL n v = true) : ∃ t : Nat, t < n ∧ v = lN t := by
  have h1 := (r_isIn_iff _ _ _).mp h
  rw [i64_toInt] at h1
  have e : (nI n - 1).toInt = (n : Int) - 1 := pk_sub_toInt (a := n) (b := 1) (by omega) (by decide)
  rw [e] at h1
  have h0 : (0 : Int) ≤ v.toInt := h1.1
  refine ⟨v.toInt.toNat, by omega, Int64.toInt_inj.mp ?_⟩
  rw [lN_toInt (by omega)]
  omega
theorem v_X10_doesMore : mVm yX10_doesMore cX10_doesMore 10 (some .boolean) 4 := ⟨cd_X10_doesMore, im_X10_doesMore, se_X10_doesMore, ini_X10, by decide, by decide, by decide +kernel⟩
set_option maxHeartbeats 4000000 in
set_option maxRecDepth 100000 in
theorem k_X10_doesMore (Γ : mG) (l : Launch) (L : mI → Nat) (x : RS) (h : Nat → Int32) (d : Nat) (a : Int32) (b : Int32) (o : Int32) (v : Int64) (hd : d ≤ 8) (k om : Nat) (pm : Nat → Nat) (ha : a = nI k) (hk : k < 8) (hom : x.2.1 2 k = nI om) (ho40 : om ≤ 40) (hpm : ∀ t, t < 8 → x.2.1 1 t = nI (pm t) ∧ pm t ≤ 4) : mMet Γ l yX10_doesMore cX10_doesMore 10 (some .boolean) { frames := 5, cells := 0, slots := 0, locals := 107 } [.ref (L (.inl 0)), .int a, .int b, .int o, .long v] L (rM Γ L (sH x (h, d))) (mQi Γ (mHand Γ L x (p_more k om pm o v (h, d)))) := by
  refine m_start (by decide) (Nat.le_of_ble_eq_true rfl) ?_
  intro p e s m args below meth c A ls X hr hlk hnm hw hS hl
  have hx := X.1.1
  have hb := X.1.2.1
  have hl : lv_has ls 10 [(0, .ref (L (.inl 0))), (1, .int a), (2, .int b), (3, .int o), (4, .long v)] := hl
  have K706 : ∀ (u t tt : Nat) (g : Nat → Int32) (d2 : Nat) (j : Int32) (H : Heap) (locs : List Loc) (ls : Array Slot), t + u = pm tt → j = nI t → o = 33 → v = lN tt → p_isL k v = true → tt < k → p_pops t (h, d) = some (g, d2) → mW Γ.1 vwCl A L (rM Γ L (sH x (g, d2))) H → va_S A s.heap H locs → lv_has ls 10 [(9, .int j), (8, .int 1), (7, .int 0), (6, .int 0), (0, .ref (L (.inl 0))), (1, .int a), (2, .int b), (3, .int o), (4, .long (lN tt))] → W p l e { frames := 5, cells := 0, slots := 0, locals := 107 } s m args below meth c H locs 0 0 (MQ below (mQi Γ (mHand Γ L x (p_more k om pm o v (h, d))) A) args s 0 0 A) (F0 m 706 ls []) := by
    intro u
    induction u with
    | zero =>
      intro t tt g d2 j H locs ls ht hj h33 ev h1 htk hp hw hS hl
      have hd2 := p_pops_le (q := (h, d)) hd hp
      have hpm4 := (hpm tt (by omega)).2
      have hctt : (lN tt).toInt32.toNatClampNeg = tt := by rw [lN_i]; exact nI_clamp (by omega)
      refine lv_iload hx hb dX10_doesMore_706 (lv_at hl 0 rfl) ?_
      refine lv_aload_n hx hb dX10_doesMore_708 rfl (lv_at hl 4 rfl) ?_
      refine r_get1 X hw dX10_doesMore_709 ?_
      refine lv_lload hx hb dX10_doesMore_712 (lv_at hl 8 rfl) ?_
      refine lv_l2i (v := (lN tt).toInt32) hx hb dX10_doesMore_714 rfl ?_
      refine h_ald1 X hw (lN_i tt) (by omega) dX10_doesMore_715 ?_
      refine lv_icmp_ge (tgt := 737) hx hb dX10_doesMore_716 (by decide) (fun c_1 => ?_) (fun c_1 => ?_)
      · skip
        have c_1n : t ≥ (pm tt) := ngeT (a := t) (b := pm tt) hj (hpm _ (by omega)).1 (by omega) (by omega) c_1
        have c_1m : ¬ t < (pm tt) := by omega
        refine lv_iload hx hb dX10_doesMore_737 (lv_at hl 1 rfl) ?_
        refine lv_if_eq (tgt := 754) hx hb dX10_doesMore_739 (by decide) (fun h => absurd h (by decide)) (fun _ => ?_)
        refine lv_aload_n hx hb dX10_doesMore_742 rfl (lv_at hl 4 rfl) ?_
        refine lv_iconst (v := 1) hx hb dX10_doesMore_743 (by decide) ?_
        refine m_calli (m_runV (i := .inl 0) (ci := 8) (As := [.int 1]) (rest := []) X (k_X10_push Γ l L x g d2 1 (by omega)) v_X10_push ml_X10_148 hw hS rfl rfl rfl rfl hl.1 ⟨Nat.le_of_ble_eq_true rfl, Nat.le_of_ble_eq_true rfl⟩ (Nat.le_of_ble_eq_true rfl) ⟨Nat.le_of_ble_eq_true rfl, Nat.le_of_ble_eq_true rfl⟩ dX10_doesMore_744) hS (fun r_4 L1 M1 H locs hp_3 hw hS => ?_)
        obtain ⟨q_4, e1, e2, e3⟩ := hp_3
        rw [e1, e2] at hw; clear e1 e2
        rcases ho_4 : p_push (g, d2) 1 with _ | ⟨h_4, d_4⟩
        · rw [ho_4] at e3; subst e3
          refine lv_if_eq (tgt := 754) hx hb dX10_doesMore_747 (by decide) (fun _ => ?_) (fun h => absurd rfl h)
          refine lv_iconst (v := 0) hx hb dX10_doesMore_754 (by decide) ?_
          exact m_zret (b := false) X hr hlk hw hS (Nat.zero_le _) (Nat.zero_le _) rfl ⟨(q_4.1, q_4.2), rfl, rfl, by clear hb hx hl hS hw hnm hlk hr X; first | exact absurd ht (by omega) | (simp_all [bI, p_more, p_29, p_isL]; done) | (rw [p_more_out (by assumption)]; rfl) | (subst h33; subst ev; have z := p_pops_none (show p_pops (t + 1) (h, d) = none by rw [p_pops, hp]; assumption) u; rw [show t + 1 + u = pm tt by omega] at z; simp [p_more, p_33, h1, hctt, z, bI]; done) | (have e9 : t = pm tt := (by omega); subst h33; subst ev; rw [e9] at hp; simp_all [p_more, p_33, bI]; done) | (simp_all [bI, Nat.pos_iff_ne_zero, p_more, p_16, p_17, p_18, p_19, p_20, p_21, p_23, p_24, p_26, p_27, p_28, p_29, p_30, p_33, p_top, p_drop, p_isRowN]; done)⟩ dX10_doesMore_755
        · rw [ho_4] at e3; obtain ⟨e3, e4⟩ := e3; subst e3; subst e4
          have hd_4 := p_push_le ho_4 (by omega)
          refine lv_if_eq (tgt := 754) hx hb dX10_doesMore_747 (by decide) (fun h => absurd h (by decide)) (fun _ => ?_)
          refine lv_iconst (v := 1) hx hb dX10_doesMore_750 (by decide) ?_
          refine lv_goto (tgt := 755) hx hb dX10_doesMore_751 (by decide) ?_
          exact m_zret (b := true) X hr hlk hw hS (Nat.zero_le _) (Nat.zero_le _) rfl ⟨(h_4, d_4), rfl, rfl, by clear hb hx hl hS hw hnm hlk hr X; first | exact absurd ht (by omega) | (simp_all [bI, p_more, p_29, p_isL]; done) | (rw [p_more_out (by assumption)]; rfl) | (subst h33; subst ev; have z := p_pops_none (show p_pops (t + 1) (h, d) = none by rw [p_pops, hp]; assumption) u; rw [show t + 1 + u = pm tt by omega] at z; simp [p_more, p_33, h1, hctt, z, bI]; done) | (have e9 : t = pm tt := (by omega); subst h33; subst ev; rw [e9] at hp; simp_all [p_more, p_33, bI]; done) | (simp_all [bI, Nat.pos_iff_ne_zero, p_more, p_16, p_17, p_18, p_19, p_20, p_21, p_23, p_24, p_26, p_27, p_28, p_29, p_30, p_33, p_top, p_drop, p_isRowN]; done)⟩ dX10_doesMore_755
      · skip
        have c_1n : ¬ t ≥ (pm tt) := ngeF (a := t) (b := pm tt) hj (hpm _ (by omega)).1 (by omega) (by omega) c_1
        have c_1m : t < (pm tt) := by omega
        refine lv_iload hx hb dX10_doesMore_719 (lv_at hl 1 rfl) ?_
        refine lv_if_eq (tgt := 737) hx hb dX10_doesMore_721 (by decide) (fun h => absurd h (by decide)) (fun _ => ?_)
        refine lv_aload_n hx hb dX10_doesMore_724 rfl (lv_at hl 4 rfl) ?_
        refine lv_iconst (v := 1) hx hb dX10_doesMore_725 (by decide) ?_
        refine m_calli (m_runV (i := .inl 0) (ci := 8) (As := [.int 1]) (rest := []) X (k_X10_pop Γ l L x g d2 1 (by omega)) v_X10_pop ml_X10_170 hw hS rfl rfl rfl rfl hl.1 ⟨Nat.le_of_ble_eq_true rfl, Nat.le_of_ble_eq_true rfl⟩ (Nat.le_of_ble_eq_true rfl) ⟨Nat.le_of_ble_eq_true rfl, Nat.le_of_ble_eq_true rfl⟩ dX10_doesMore_726) hS (fun r_9 L1 M1 H locs hp_8 hw hS => ?_)
        obtain ⟨q_9, e1, e2, e3⟩ := hp_8
        rw [e1, e2] at hw; clear e1 e2
        rcases ho_9 : p_pop (g, d2) 1 with _ | ⟨h_9, d_9⟩
        · rw [ho_9] at e3; subst e3
          refine lv_istore (lv' := [(8, .int 0), (9, .int j), (7, .int 0), (6, .int 0), (0, .ref (L (.inl 0))), (1, .int a), (2, .int b), (3, .int o), (4, .long (lN tt))]) hx hb dX10_doesMore_729 hl (by decide) rfl (fun ls hl => ?_)
          refine lv_iinc (v := j + 1) (lv' := [(9, .int (j + 1)), (8, .int 0), (7, .int 0), (6, .int 0), (0, .ref (L (.inl 0))), (1, .int a), (2, .int b), (3, .int o), (4, .long (lN tt))]) hx hb dX10_doesMore_731 hl (k := 1) rfl rfl (by decide) rfl (fun ls hl => ?_)
          refine lv_goto (tgt := 706) hx hb dX10_doesMore_734 (by decide) ?_
          refine lv_iload hx hb dX10_doesMore_706 (lv_at hl 0 rfl) ?_
          refine lv_aload_n hx hb dX10_doesMore_708 rfl (lv_at hl 4 rfl) ?_
          refine r_get1 X hw dX10_doesMore_709 ?_
          refine lv_lload hx hb dX10_doesMore_712 (lv_at hl 8 rfl) ?_
          refine lv_l2i (v := (lN tt).toInt32) hx hb dX10_doesMore_714 rfl ?_
          refine h_ald1 X hw (lN_i tt) (by omega) dX10_doesMore_715 ?_
          refine lv_icmp_ge (tgt := 737) hx hb dX10_doesMore_716 (by decide) (fun c_10 => ?_) (fun c_10 => ?_)
          · skip
            have c_10n : (t + 1) ≥ (pm tt) := ngeT (a := t + 1) (b := pm tt) (nadd (a := t) (b := 1) hj rfl) (hpm _ (by omega)).1 (by omega) (by omega) c_10
            have c_10m : ¬ (t + 1) < (pm tt) := by omega
            refine lv_iload hx hb dX10_doesMore_737 (lv_at hl 1 rfl) ?_
            refine lv_if_eq (tgt := 754) hx hb dX10_doesMore_739 (by decide) (fun _ => ?_) (fun h => absurd rfl h)
            refine lv_iconst (v := 0) hx hb dX10_doesMore_754 (by decide) ?_
            exact m_zret (b := false) X hr hlk hw hS (Nat.zero_le _) (Nat.zero_le _) rfl ⟨(q_9.1, q_9.2), rfl, rfl, by clear hb hx hl hS hw hnm hlk hr X; first | exact absurd ht (by omega) | (simp_all [bI, p_more, p_29, p_isL]; done) | (rw [p_more_out (by assumption)]; rfl) | (subst h33; subst ev; have z := p_pops_none (show p_pops (t + 1) (h, d) = none by rw [p_pops, hp]; assumption) u; rw [show t + 1 + u = pm tt by omega] at z; simp [p_more, p_33, h1, hctt, z, bI]; done) | (have e9 : t = pm tt := (by omega); subst h33; subst ev; rw [e9] at hp; simp_all [p_more, p_33, bI]; done) | (simp_all [bI, Nat.pos_iff_ne_zero, p_more, p_16, p_17, p_18, p_19, p_20, p_21, p_23, p_24, p_26, p_27, p_28, p_29, p_30, p_33, p_top, p_drop, p_isRowN]; done)⟩ dX10_doesMore_755
          · skip
            have c_10n : ¬ (t + 1) ≥ (pm tt) := ngeF (a := t + 1) (b := pm tt) (nadd (a := t) (b := 1) hj rfl) (hpm _ (by omega)).1 (by omega) (by omega) c_10
            have c_10m : (t + 1) < (pm tt) := by omega
            refine lv_iload hx hb dX10_doesMore_719 (lv_at hl 1 rfl) ?_
            refine lv_if_eq (tgt := 737) hx hb dX10_doesMore_721 (by decide) (fun _ => ?_) (fun h => absurd rfl h)
            refine lv_iload hx hb dX10_doesMore_737 (lv_at hl 1 rfl) ?_
            refine lv_if_eq (tgt := 754) hx hb dX10_doesMore_739 (by decide) (fun _ => ?_) (fun h => absurd rfl h)
            refine lv_iconst (v := 0) hx hb dX10_doesMore_754 (by decide) ?_
            exact m_zret (b := false) X hr hlk hw hS (Nat.zero_le _) (Nat.zero_le _) rfl ⟨(q_9.1, q_9.2), rfl, rfl, by clear hb hx hl hS hw hnm hlk hr X; first | exact absurd ht (by omega) | (simp_all [bI, p_more, p_29, p_isL]; done) | (rw [p_more_out (by assumption)]; rfl) | (subst h33; subst ev; have z := p_pops_none (show p_pops (t + 1) (h, d) = none by rw [p_pops, hp]; assumption) u; rw [show t + 1 + u = pm tt by omega] at z; simp [p_more, p_33, h1, hctt, z, bI]; done) | (have e9 : t = pm tt := (by omega); subst h33; subst ev; rw [e9] at hp; simp_all [p_more, p_33, bI]; done) | (simp_all [bI, Nat.pos_iff_ne_zero, p_more, p_16, p_17, p_18, p_19, p_20, p_21, p_23, p_24, p_26, p_27, p_28, p_29, p_30, p_33, p_top, p_drop, p_isRowN]; done)⟩ dX10_doesMore_755
        · rw [ho_9] at e3; obtain ⟨e3, e4⟩ := e3; subst e3; subst e4
          have hd_9 := p_pop_le ho_9 (by omega)
          refine lv_istore (lv' := [(8, .int 1), (9, .int j), (7, .int 0), (6, .int 0), (0, .ref (L (.inl 0))), (1, .int a), (2, .int b), (3, .int o), (4, .long (lN tt))]) hx hb dX10_doesMore_729 hl (by decide) rfl (fun ls hl => ?_)
          refine lv_iinc (v := j + 1) (lv' := [(9, .int (j + 1)), (8, .int 1), (7, .int 0), (6, .int 0), (0, .ref (L (.inl 0))), (1, .int a), (2, .int b), (3, .int o), (4, .long (lN tt))]) hx hb dX10_doesMore_731 hl (k := 1) rfl rfl (by decide) rfl (fun ls hl => ?_)
          refine lv_goto (tgt := 706) hx hb dX10_doesMore_734 (by decide) ?_
          exact absurd ht (by omega)
    | succ u ih =>
      intro t tt g d2 j H locs ls ht hj h33 ev h1 htk hp hw hS hl
      have hd2 := p_pops_le (q := (h, d)) hd hp
      have hpm4 := (hpm tt (by omega)).2
      have hctt : (lN tt).toInt32.toNatClampNeg = tt := by rw [lN_i]; exact nI_clamp (by omega)
      refine lv_iload hx hb dX10_doesMore_706 (lv_at hl 0 rfl) ?_
      refine lv_aload_n hx hb dX10_doesMore_708 rfl (lv_at hl 4 rfl) ?_
      refine r_get1 X hw dX10_doesMore_709 ?_
      refine lv_lload hx hb dX10_doesMore_712 (lv_at hl 8 rfl) ?_
      refine lv_l2i (v := (lN tt).toInt32) hx hb dX10_doesMore_714 rfl ?_
      refine h_ald1 X hw (lN_i tt) (by omega) dX10_doesMore_715 ?_
      refine lv_icmp_ge (tgt := 737) hx hb dX10_doesMore_716 (by decide) (fun c_14 => ?_) (fun c_14 => ?_)
      · skip
        have c_14n : t ≥ (pm tt) := ngeT (a := t) (b := pm tt) hj (hpm _ (by omega)).1 (by omega) (by omega) c_14
        have c_14m : ¬ t < (pm tt) := by omega
        refine lv_iload hx hb dX10_doesMore_737 (lv_at hl 1 rfl) ?_
        refine lv_if_eq (tgt := 754) hx hb dX10_doesMore_739 (by decide) (fun h => absurd h (by decide)) (fun _ => ?_)
        refine lv_aload_n hx hb dX10_doesMore_742 rfl (lv_at hl 4 rfl) ?_
        refine lv_iconst (v := 1) hx hb dX10_doesMore_743 (by decide) ?_
        refine m_calli (m_runV (i := .inl 0) (ci := 8) (As := [.int 1]) (rest := []) X (k_X10_push Γ l L x g d2 1 (by omega)) v_X10_push ml_X10_148 hw hS rfl rfl rfl rfl hl.1 ⟨Nat.le_of_ble_eq_true rfl, Nat.le_of_ble_eq_true rfl⟩ (Nat.le_of_ble_eq_true rfl) ⟨Nat.le_of_ble_eq_true rfl, Nat.le_of_ble_eq_true rfl⟩ dX10_doesMore_744) hS (fun r_17 L1 M1 H locs hp_16 hw hS => ?_)
        obtain ⟨q_17, e1, e2, e3⟩ := hp_16
        rw [e1, e2] at hw; clear e1 e2
        rcases ho_17 : p_push (g, d2) 1 with _ | ⟨h_17, d_17⟩
        · rw [ho_17] at e3; subst e3
          refine lv_if_eq (tgt := 754) hx hb dX10_doesMore_747 (by decide) (fun _ => ?_) (fun h => absurd rfl h)
          refine lv_iconst (v := 0) hx hb dX10_doesMore_754 (by decide) ?_
          exact m_zret (b := false) X hr hlk hw hS (Nat.zero_le _) (Nat.zero_le _) rfl ⟨(q_17.1, q_17.2), rfl, rfl, by clear ih hb hx hl hS hw hnm hlk hr X; first | exact absurd ht (by omega) | (simp_all [bI, p_more, p_29, p_isL]; done) | (rw [p_more_out (by assumption)]; rfl) | (subst h33; subst ev; have z := p_pops_none (show p_pops (t + 1) (h, d) = none by rw [p_pops, hp]; assumption) u; rw [show t + 1 + u = pm tt by omega] at z; simp [p_more, p_33, h1, hctt, z, bI]; done) | (have e9 : t = pm tt := (by omega); subst h33; subst ev; rw [e9] at hp; simp_all [p_more, p_33, bI]; done) | (simp_all [bI, Nat.pos_iff_ne_zero, p_more, p_16, p_17, p_18, p_19, p_20, p_21, p_23, p_24, p_26, p_27, p_28, p_29, p_30, p_33, p_top, p_drop, p_isRowN]; done)⟩ dX10_doesMore_755
        · rw [ho_17] at e3; obtain ⟨e3, e4⟩ := e3; subst e3; subst e4
          have hd_17 := p_push_le ho_17 (by omega)
          refine lv_if_eq (tgt := 754) hx hb dX10_doesMore_747 (by decide) (fun h => absurd h (by decide)) (fun _ => ?_)
          refine lv_iconst (v := 1) hx hb dX10_doesMore_750 (by decide) ?_
          refine lv_goto (tgt := 755) hx hb dX10_doesMore_751 (by decide) ?_
          exact m_zret (b := true) X hr hlk hw hS (Nat.zero_le _) (Nat.zero_le _) rfl ⟨(h_17, d_17), rfl, rfl, by clear ih hb hx hl hS hw hnm hlk hr X; first | exact absurd ht (by omega) | (simp_all [bI, p_more, p_29, p_isL]; done) | (rw [p_more_out (by assumption)]; rfl) | (subst h33; subst ev; have z := p_pops_none (show p_pops (t + 1) (h, d) = none by rw [p_pops, hp]; assumption) u; rw [show t + 1 + u = pm tt by omega] at z; simp [p_more, p_33, h1, hctt, z, bI]; done) | (have e9 : t = pm tt := (by omega); subst h33; subst ev; rw [e9] at hp; simp_all [p_more, p_33, bI]; done) | (simp_all [bI, Nat.pos_iff_ne_zero, p_more, p_16, p_17, p_18, p_19, p_20, p_21, p_23, p_24, p_26, p_27, p_28, p_29, p_30, p_33, p_top, p_drop, p_isRowN]; done)⟩ dX10_doesMore_755
      · skip
        have c_14n : ¬ t ≥ (pm tt) := ngeF (a := t) (b := pm tt) hj (hpm _ (by omega)).1 (by omega) (by omega) c_14
        have c_14m : t < (pm tt) := by omega
        refine lv_iload hx hb dX10_doesMore_719 (lv_at hl 1 rfl) ?_
        refine lv_if_eq (tgt := 737) hx hb dX10_doesMore_721 (by decide) (fun h => absurd h (by decide)) (fun _ => ?_)
        refine lv_aload_n hx hb dX10_doesMore_724 rfl (lv_at hl 4 rfl) ?_
        refine lv_iconst (v := 1) hx hb dX10_doesMore_725 (by decide) ?_
        refine m_calli (m_runV (i := .inl 0) (ci := 8) (As := [.int 1]) (rest := []) X (k_X10_pop Γ l L x g d2 1 (by omega)) v_X10_pop ml_X10_170 hw hS rfl rfl rfl rfl hl.1 ⟨Nat.le_of_ble_eq_true rfl, Nat.le_of_ble_eq_true rfl⟩ (Nat.le_of_ble_eq_true rfl) ⟨Nat.le_of_ble_eq_true rfl, Nat.le_of_ble_eq_true rfl⟩ dX10_doesMore_726) hS (fun r_22 L1 M1 H locs hp_21 hw hS => ?_)
        obtain ⟨q_22, e1, e2, e3⟩ := hp_21
        rw [e1, e2] at hw; clear e1 e2
        rcases ho_22 : p_pop (g, d2) 1 with _ | ⟨h_22, d_22⟩
        · rw [ho_22] at e3; subst e3
          refine lv_istore (lv' := [(8, .int 0), (9, .int j), (7, .int 0), (6, .int 0), (0, .ref (L (.inl 0))), (1, .int a), (2, .int b), (3, .int o), (4, .long (lN tt))]) hx hb dX10_doesMore_729 hl (by decide) rfl (fun ls hl => ?_)
          refine lv_iinc (v := j + 1) (lv' := [(9, .int (j + 1)), (8, .int 0), (7, .int 0), (6, .int 0), (0, .ref (L (.inl 0))), (1, .int a), (2, .int b), (3, .int o), (4, .long (lN tt))]) hx hb dX10_doesMore_731 hl (k := 1) rfl rfl (by decide) rfl (fun ls hl => ?_)
          refine lv_goto (tgt := 706) hx hb dX10_doesMore_734 (by decide) ?_
          refine lv_iload hx hb dX10_doesMore_706 (lv_at hl 0 rfl) ?_
          refine lv_aload_n hx hb dX10_doesMore_708 rfl (lv_at hl 4 rfl) ?_
          refine r_get1 X hw dX10_doesMore_709 ?_
          refine lv_lload hx hb dX10_doesMore_712 (lv_at hl 8 rfl) ?_
          refine lv_l2i (v := (lN tt).toInt32) hx hb dX10_doesMore_714 rfl ?_
          refine h_ald1 X hw (lN_i tt) (by omega) dX10_doesMore_715 ?_
          refine lv_icmp_ge (tgt := 737) hx hb dX10_doesMore_716 (by decide) (fun c_23 => ?_) (fun c_23 => ?_)
          · skip
            have c_23n : (t + 1) ≥ (pm tt) := ngeT (a := t + 1) (b := pm tt) (nadd (a := t) (b := 1) hj rfl) (hpm _ (by omega)).1 (by omega) (by omega) c_23
            have c_23m : ¬ (t + 1) < (pm tt) := by omega
            refine lv_iload hx hb dX10_doesMore_737 (lv_at hl 1 rfl) ?_
            refine lv_if_eq (tgt := 754) hx hb dX10_doesMore_739 (by decide) (fun _ => ?_) (fun h => absurd rfl h)
            refine lv_iconst (v := 0) hx hb dX10_doesMore_754 (by decide) ?_
            exact m_zret (b := false) X hr hlk hw hS (Nat.zero_le _) (Nat.zero_le _) rfl ⟨(q_22.1, q_22.2), rfl, rfl, by clear ih hb hx hl hS hw hnm hlk hr X; first | exact absurd ht (by omega) | (simp_all [bI, p_more, p_29, p_isL]; done) | (rw [p_more_out (by assumption)]; rfl) | (subst h33; subst ev; have z := p_pops_none (show p_pops (t + 1) (h, d) = none by rw [p_pops, hp]; assumption) u; rw [show t + 1 + u = pm tt by omega] at z; simp [p_more, p_33, h1, hctt, z, bI]; done) | (have e9 : t = pm tt := (by omega); subst h33; subst ev; rw [e9] at hp; simp_all [p_more, p_33, bI]; done) | (simp_all [bI, Nat.pos_iff_ne_zero, p_more, p_16, p_17, p_18, p_19, p_20, p_21, p_23, p_24, p_26, p_27, p_28, p_29, p_30, p_33, p_top, p_drop, p_isRowN]; done)⟩ dX10_doesMore_755
          · skip
            have c_23n : ¬ (t + 1) ≥ (pm tt) := ngeF (a := t + 1) (b := pm tt) (nadd (a := t) (b := 1) hj rfl) (hpm _ (by omega)).1 (by omega) (by omega) c_23
            have c_23m : (t + 1) < (pm tt) := by omega
            refine lv_iload hx hb dX10_doesMore_719 (lv_at hl 1 rfl) ?_
            refine lv_if_eq (tgt := 737) hx hb dX10_doesMore_721 (by decide) (fun _ => ?_) (fun h => absurd rfl h)
            refine lv_iload hx hb dX10_doesMore_737 (lv_at hl 1 rfl) ?_
            refine lv_if_eq (tgt := 754) hx hb dX10_doesMore_739 (by decide) (fun _ => ?_) (fun h => absurd rfl h)
            refine lv_iconst (v := 0) hx hb dX10_doesMore_754 (by decide) ?_
            exact m_zret (b := false) X hr hlk hw hS (Nat.zero_le _) (Nat.zero_le _) rfl ⟨(q_22.1, q_22.2), rfl, rfl, by clear ih hb hx hl hS hw hnm hlk hr X; first | exact absurd ht (by omega) | (simp_all [bI, p_more, p_29, p_isL]; done) | (rw [p_more_out (by assumption)]; rfl) | (subst h33; subst ev; have z := p_pops_none (show p_pops (t + 1) (h, d) = none by rw [p_pops, hp]; assumption) u; rw [show t + 1 + u = pm tt by omega] at z; simp [p_more, p_33, h1, hctt, z, bI]; done) | (have e9 : t = pm tt := (by omega); subst h33; subst ev; rw [e9] at hp; simp_all [p_more, p_33, bI]; done) | (simp_all [bI, Nat.pos_iff_ne_zero, p_more, p_16, p_17, p_18, p_19, p_20, p_21, p_23, p_24, p_26, p_27, p_28, p_29, p_30, p_33, p_top, p_drop, p_isRowN]; done)⟩ dX10_doesMore_755
        · rw [ho_22] at e3; obtain ⟨e3, e4⟩ := e3; subst e3; subst e4
          have hd_22 := p_pop_le ho_22 (by omega)
          refine lv_istore (lv' := [(8, .int 1), (9, .int j), (7, .int 0), (6, .int 0), (0, .ref (L (.inl 0))), (1, .int a), (2, .int b), (3, .int o), (4, .long (lN tt))]) hx hb dX10_doesMore_729 hl (by decide) rfl (fun ls hl => ?_)
          refine lv_iinc (v := j + 1) (lv' := [(9, .int (j + 1)), (8, .int 1), (7, .int 0), (6, .int 0), (0, .ref (L (.inl 0))), (1, .int a), (2, .int b), (3, .int o), (4, .long (lN tt))]) hx hb dX10_doesMore_731 hl (k := 1) rfl rfl (by decide) rfl (fun ls hl => ?_)
          refine lv_goto (tgt := 706) hx hb dX10_doesMore_734 (by decide) ?_
          exact ih (t + 1) tt _ _ _ H locs ls (by omega) (nadd (a := t) (b := 1) hj rfl) h33 ev h1 htk (by rw [p_pops, hp]; exact ho_22) hw hS hl
  refine lv_iconst (v := 0) hx hb dX10_doesMore_0 (by decide) ?_
  refine lv_istore (lv' := [(6, .int 0), (0, .ref (L (.inl 0))), (1, .int a), (2, .int b), (3, .int o), (4, .long v)]) hx hb dX10_doesMore_1 hl (by decide) rfl (fun ls hl => ?_)
  refine lv_iconst (v := 0) hx hb dX10_doesMore_3 (by decide) ?_
  refine lv_istore (lv' := [(7, .int 0), (6, .int 0), (0, .ref (L (.inl 0))), (1, .int a), (2, .int b), (3, .int o), (4, .long v)]) hx hb dX10_doesMore_4 hl (by decide) rfl (fun ls hl => ?_)
  refine lv_iload_n hx hb dX10_doesMore_6 rfl (lv_at hl 5 rfl) ?_
  by_cases c_27 : o.toInt < 16 ∨ 34 < o.toInt
  · refine lv_tableOut (tgt := 756) hx hb dX10_doesMore_7 c_27 (by decide) ?_
    refine lv_iconst (v := 0) hx hb dX10_doesMore_756 (by decide) ?_
    exact m_zret (b := false) X hr hlk hw hS (Nat.zero_le _) (Nat.zero_le _) rfl ⟨(h, d), rfl, rfl, by clear K706 hb hx hl hS hw hnm hlk hr X; first | exact absurd ht (by omega) | (simp_all [bI, p_more, p_29, p_isL]; done) | (rw [p_more_out (by assumption)]; rfl) | (subst h33; subst ev; have z := p_pops_none (show p_pops (t + 1) (h, d) = none by rw [p_pops, hp]; assumption) u; rw [show t + 1 + u = pm tt by omega] at z; simp [p_more, p_33, h1, hctt, z, bI]; done) | (have e9 : t = pm tt := (by omega); subst h33; subst ev; rw [e9] at hp; simp_all [p_more, p_33, bI]; done) | (simp_all [bI, Nat.pos_iff_ne_zero, p_more, p_16, p_17, p_18, p_19, p_20, p_21, p_23, p_24, p_26, p_27, p_28, p_29, p_30, p_33, p_top, p_drop, p_isRowN]; done)⟩ dX10_doesMore_757
  · have c_27b : o.toInt = 16 ∨ o.toInt = 17 ∨ o.toInt = 18 ∨ o.toInt = 19 ∨ o.toInt = 20 ∨ o.toInt = 21 ∨ o.toInt = 22 ∨ o.toInt = 23 ∨ o.toInt = 24 ∨ o.toInt = 25 ∨ o.toInt = 26 ∨ o.toInt = 27 ∨ o.toInt = 28 ∨ o.toInt = 29 ∨ o.toInt = 30 ∨ o.toInt = 31 ∨ o.toInt = 32 ∨ o.toInt = 33 ∨ o.toInt = 34 := by omega
    rcases c_27b with c_27v | c_27v | c_27v | c_27v | c_27v | c_27v | c_27v | c_27v | c_27v | c_27v | c_27v | c_27v | c_27v | c_27v | c_27v | c_27v | c_27v | c_27v | c_27v
    · have c_27e : o = 16 := Int32.toInt_inj.mp c_27v
      refine lv_tableIn (off := 89) (tgt := 96) hx hb dX10_doesMore_7 (by omega) (by omega) (by rw [c_27v]; rfl) (by decide) ?_
      refine lv_aload_n hx hb dX10_doesMore_96 rfl (lv_at hl 2 rfl) ?_
      refine h_get15 X hw dX10_doesMore_97 ?_
      refine lv_if_le (tgt := 118) hx hb dX10_doesMore_100 (by decide) (fun c_28 => ?_) (fun c_28 => ?_)
      · skip
        have c_28n : d ≤ 0 := nleT (a := d) (b := 0) rfl rfl (by omega) (by omega) c_28
        have c_28m : ¬ 0 < d := by omega
        refine lv_iconst (v := 0) hx hb dX10_doesMore_118 (by decide) ?_
        refine lv_istore (lv' := [(6, .int 0), (7, .int 0), (0, .ref (L (.inl 0))), (1, .int a), (2, .int b), (3, .int o), (4, .long v)]) hx hb dX10_doesMore_119 hl (by decide) rfl (fun ls hl => ?_)
        refine lv_iload hx hb dX10_doesMore_121 (lv_at hl 0 rfl) ?_
        refine lv_iconst (v := 5) hx hb dX10_doesMore_123 (by decide) ?_
        refine lv_icmp_eq (tgt := 143) hx hb dX10_doesMore_124 (by decide) (fun c_29 => ?_) (fun c_29 => ?_)
        · skip
          exact absurd c_29 (by decide)
        · skip
          have c_29n : ¬ 0 = 5 := neqF (a := 0) (b := 5) rfl rfl (by omega) (by omega) c_29
          refine lv_iload hx hb dX10_doesMore_127 (lv_at hl 0 rfl) ?_
          refine m_calli (m_runS (As := [.int 0]) (rest := []) X (k_X10_isRow Γ l L (rM Γ L (sH x (h, d))) 0) s_X10_isRow ml_X10_99 hw hS rfl hl.1 ⟨Nat.le_of_ble_eq_true rfl, Nat.le_of_ble_eq_true rfl⟩ (Nat.le_of_ble_eq_true rfl) ⟨Nat.le_of_ble_eq_true rfl, Nat.le_of_ble_eq_true rfl⟩ dX10_doesMore_129) hS (fun r_31 L1 M1 H locs hp_30 hw hS => ?_)
          obtain ⟨rfl, e1, e2⟩ := hp_30
          rw [e1, e2] at hw; clear e1 e2
          refine lv_if_ne (tgt := 143) hx hb dX10_doesMore_132 (by decide) (fun c_32 => ?_) (fun c_32 => ?_)
          · skip
            exact absurd c_32 (by decide)
          · skip
            have c_32 := bI_f c_32
            refine lv_iload hx hb dX10_doesMore_135 (lv_at hl 0 rfl) ?_
            refine lv_iconst (v := 4) hx hb dX10_doesMore_137 (by decide) ?_
            refine lv_icmp_eq (tgt := 143) hx hb dX10_doesMore_138 (by decide) (fun c_33 => ?_) (fun c_33 => ?_)
            · skip
              exact absurd c_33 (by decide)
            · skip
              have c_33n : ¬ 0 = 4 := neqF (a := 0) (b := 4) rfl rfl (by omega) (by omega) c_33
              refine lv_iconst (v := 0) hx hb dX10_doesMore_141 (by decide) ?_
              exact m_zret (b := false) X hr hlk hw hS (Nat.zero_le _) (Nat.zero_le _) rfl ⟨(h, d), rfl, rfl, by clear K706 hb hx hl hS hw hnm hlk hr X; first | exact absurd ht (by omega) | (simp_all [bI, p_more, p_29, p_isL]; done) | (rw [p_more_out (by assumption)]; rfl) | (subst h33; subst ev; have z := p_pops_none (show p_pops (t + 1) (h, d) = none by rw [p_pops, hp]; assumption) u; rw [show t + 1 + u = pm tt by omega] at z; simp [p_more, p_33, h1, hctt, z, bI]; done) | (have e9 : t = pm tt := (by omega); subst h33; subst ev; rw [e9] at hp; simp_all [p_more, p_33, bI]; done) | (simp_all [bI, Nat.pos_iff_ne_zero, p_more, p_16, p_17, p_18, p_19, p_20, p_21, p_23, p_24, p_26, p_27, p_28, p_29, p_30, p_33, p_top, p_drop, p_isRowN]; done)⟩ dX10_doesMore_142
      · skip
        have c_28n : ¬ d ≤ 0 := nleF (a := d) (b := 0) rfl rfl (by omega) (by omega) c_28
        have c_28m : 0 < d := by omega
        refine lv_aload_n hx hb dX10_doesMore_103 rfl (lv_at hl 2 rfl) ?_
        refine r_get14 X hw dX10_doesMore_104 ?_
        refine lv_bipush (v := 7) hx hb dX10_doesMore_107 (by decide) ?_
        refine lv_aload_n hx hb dX10_doesMore_109 rfl (lv_at hl 2 rfl) ?_
        refine h_get15 X hw dX10_doesMore_110 ?_
        refine lv_iadd hx hb dX10_doesMore_113 ?_
        refine h_ald14 X hw (nadd (a := 7) (b := d) rfl rfl) (by omega) dX10_doesMore_114 ?_
        refine lv_goto (tgt := 119) hx hb dX10_doesMore_115 (by decide) ?_
        refine lv_istore (lv' := [(6, .int (h (7 + d))), (7, .int 0), (0, .ref (L (.inl 0))), (1, .int a), (2, .int b), (3, .int o), (4, .long v)]) hx hb dX10_doesMore_119 hl (by decide) rfl (fun ls hl => ?_)
        refine lv_iload hx hb dX10_doesMore_121 (lv_at hl 0 rfl) ?_
        refine lv_iconst (v := 5) hx hb dX10_doesMore_123 (by decide) ?_
        refine lv_icmp_eq (tgt := 143) hx hb dX10_doesMore_124 (by decide) (fun c_34 => ?_) (fun c_34 => ?_)
        · skip
          refine lv_aload_n hx hb dX10_doesMore_143 rfl (lv_at hl 2 rfl) ?_
          refine lv_dup hx hb dX10_doesMore_144 rfl ?_
          refine h_get15 X hw dX10_doesMore_145 ?_
          refine lv_iconst (v := 1) hx hb dX10_doesMore_148 (by decide) ?_
          refine lv_isub hx hb dX10_doesMore_149 ?_
          refine h_put15 X hw hS (nsub (a := d) (b := 1) (by omega) rfl rfl) dX10_doesMore_150 (fun H locs hw hS => ?_)
          refine lv_aload_n hx hb dX10_doesMore_153 rfl (lv_at hl 2 rfl) ?_
          refine lv_iconst (v := 1) hx hb dX10_doesMore_154 (by decide) ?_
          refine m_calli (m_runV (i := .inl 0) (ci := 8) (As := [.int 1]) (rest := []) X (k_X10_push Γ l L x h (d - 1) 1 (by omega)) v_X10_push ml_X10_148 hw hS rfl rfl rfl rfl hl.1 ⟨Nat.le_of_ble_eq_true rfl, Nat.le_of_ble_eq_true rfl⟩ (Nat.le_of_ble_eq_true rfl) ⟨Nat.le_of_ble_eq_true rfl, Nat.le_of_ble_eq_true rfl⟩ dX10_doesMore_155) hS (fun r_36 L1 M1 H locs hp_35 hw hS => ?_)
          obtain ⟨q_36, e1, e2, e3⟩ := hp_35
          rw [e1, e2] at hw; clear e1 e2
          rcases ho_36 : p_push (h, (d - 1)) 1 with _ | ⟨h_36, d_36⟩
          · rw [ho_36] at e3; subst e3
            exact m_zret (b := false) X hr hlk hw hS (Nat.zero_le _) (Nat.zero_le _) rfl ⟨(q_36.1, q_36.2), rfl, rfl, by clear K706 hb hx hl hS hw hnm hlk hr X; first | exact absurd ht (by omega) | (simp_all [bI, p_more, p_29, p_isL]; done) | (rw [p_more_out (by assumption)]; rfl) | (subst h33; subst ev; have z := p_pops_none (show p_pops (t + 1) (h, d) = none by rw [p_pops, hp]; assumption) u; rw [show t + 1 + u = pm tt by omega] at z; simp [p_more, p_33, h1, hctt, z, bI]; done) | (have e9 : t = pm tt := (by omega); subst h33; subst ev; rw [e9] at hp; simp_all [p_more, p_33, bI]; done) | (simp_all [bI, Nat.pos_iff_ne_zero, p_more, p_16, p_17, p_18, p_19, p_20, p_21, p_23, p_24, p_26, p_27, p_28, p_29, p_30, p_33, p_top, p_drop, p_isRowN]; done)⟩ dX10_doesMore_158
          · rw [ho_36] at e3; obtain ⟨e3, e4⟩ := e3; subst e3; subst e4
            have hd_36 := p_push_le ho_36 (by omega)
            exact m_zret (b := true) X hr hlk hw hS (Nat.zero_le _) (Nat.zero_le _) rfl ⟨(h_36, d_36), rfl, rfl, by clear K706 hb hx hl hS hw hnm hlk hr X; first | exact absurd ht (by omega) | (simp_all [bI, p_more, p_29, p_isL]; done) | (rw [p_more_out (by assumption)]; rfl) | (subst h33; subst ev; have z := p_pops_none (show p_pops (t + 1) (h, d) = none by rw [p_pops, hp]; assumption) u; rw [show t + 1 + u = pm tt by omega] at z; simp [p_more, p_33, h1, hctt, z, bI]; done) | (have e9 : t = pm tt := (by omega); subst h33; subst ev; rw [e9] at hp; simp_all [p_more, p_33, bI]; done) | (simp_all [bI, Nat.pos_iff_ne_zero, p_more, p_16, p_17, p_18, p_19, p_20, p_21, p_23, p_24, p_26, p_27, p_28, p_29, p_30, p_33, p_top, p_drop, p_isRowN]; done)⟩ dX10_doesMore_158
        · skip
          refine lv_iload hx hb dX10_doesMore_127 (lv_at hl 0 rfl) ?_
          refine m_calli (m_runS (As := [.int (h (7 + d))]) (rest := []) X (k_X10_isRow Γ l L (rM Γ L (sH x (h, d))) (h (7 + d))) s_X10_isRow ml_X10_99 hw hS rfl hl.1 ⟨Nat.le_of_ble_eq_true rfl, Nat.le_of_ble_eq_true rfl⟩ (Nat.le_of_ble_eq_true rfl) ⟨Nat.le_of_ble_eq_true rfl, Nat.le_of_ble_eq_true rfl⟩ dX10_doesMore_129) hS (fun r_38 L1 M1 H locs hp_37 hw hS => ?_)
          obtain ⟨rfl, e1, e2⟩ := hp_37
          rw [e1, e2] at hw; clear e1 e2
          refine lv_if_ne (tgt := 143) hx hb dX10_doesMore_132 (by decide) (fun c_39 => ?_) (fun c_39 => ?_)
          · skip
            have c_39 := bI_t c_39
            refine lv_aload_n hx hb dX10_doesMore_143 rfl (lv_at hl 2 rfl) ?_
            refine lv_dup hx hb dX10_doesMore_144 rfl ?_
            refine h_get15 X hw dX10_doesMore_145 ?_
            refine lv_iconst (v := 1) hx hb dX10_doesMore_148 (by decide) ?_
            refine lv_isub hx hb dX10_doesMore_149 ?_
            refine h_put15 X hw hS (nsub (a := d) (b := 1) (by omega) rfl rfl) dX10_doesMore_150 (fun H locs hw hS => ?_)
            refine lv_aload_n hx hb dX10_doesMore_153 rfl (lv_at hl 2 rfl) ?_
            refine lv_iconst (v := 1) hx hb dX10_doesMore_154 (by decide) ?_
            refine m_calli (m_runV (i := .inl 0) (ci := 8) (As := [.int 1]) (rest := []) X (k_X10_push Γ l L x h (d - 1) 1 (by omega)) v_X10_push ml_X10_148 hw hS rfl rfl rfl rfl hl.1 ⟨Nat.le_of_ble_eq_true rfl, Nat.le_of_ble_eq_true rfl⟩ (Nat.le_of_ble_eq_true rfl) ⟨Nat.le_of_ble_eq_true rfl, Nat.le_of_ble_eq_true rfl⟩ dX10_doesMore_155) hS (fun r_41 L1 M1 H locs hp_40 hw hS => ?_)
            obtain ⟨q_41, e1, e2, e3⟩ := hp_40
            rw [e1, e2] at hw; clear e1 e2
            rcases ho_41 : p_push (h, (d - 1)) 1 with _ | ⟨h_41, d_41⟩
            · rw [ho_41] at e3; subst e3
              exact m_zret (b := false) X hr hlk hw hS (Nat.zero_le _) (Nat.zero_le _) rfl ⟨(q_41.1, q_41.2), rfl, rfl, by clear K706 hb hx hl hS hw hnm hlk hr X; first | exact absurd ht (by omega) | (simp_all [bI, p_more, p_29, p_isL]; done) | (rw [p_more_out (by assumption)]; rfl) | (subst h33; subst ev; have z := p_pops_none (show p_pops (t + 1) (h, d) = none by rw [p_pops, hp]; assumption) u; rw [show t + 1 + u = pm tt by omega] at z; simp [p_more, p_33, h1, hctt, z, bI]; done) | (have e9 : t = pm tt := (by omega); subst h33; subst ev; rw [e9] at hp; simp_all [p_more, p_33, bI]; done) | (simp_all [bI, Nat.pos_iff_ne_zero, p_more, p_16, p_17, p_18, p_19, p_20, p_21, p_23, p_24, p_26, p_27, p_28, p_29, p_30, p_33, p_top, p_drop, p_isRowN]; done)⟩ dX10_doesMore_158
            · rw [ho_41] at e3; obtain ⟨e3, e4⟩ := e3; subst e3; subst e4
              have hd_41 := p_push_le ho_41 (by omega)
              exact m_zret (b := true) X hr hlk hw hS (Nat.zero_le _) (Nat.zero_le _) rfl ⟨(h_41, d_41), rfl, rfl, by clear K706 hb hx hl hS hw hnm hlk hr X; first | exact absurd ht (by omega) | (simp_all [bI, p_more, p_29, p_isL]; done) | (rw [p_more_out (by assumption)]; rfl) | (subst h33; subst ev; have z := p_pops_none (show p_pops (t + 1) (h, d) = none by rw [p_pops, hp]; assumption) u; rw [show t + 1 + u = pm tt by omega] at z; simp [p_more, p_33, h1, hctt, z, bI]; done) | (have e9 : t = pm tt := (by omega); subst h33; subst ev; rw [e9] at hp; simp_all [p_more, p_33, bI]; done) | (simp_all [bI, Nat.pos_iff_ne_zero, p_more, p_16, p_17, p_18, p_19, p_20, p_21, p_23, p_24, p_26, p_27, p_28, p_29, p_30, p_33, p_top, p_drop, p_isRowN]; done)⟩ dX10_doesMore_158
          · skip
            have c_39 := bI_f c_39
            refine lv_iload hx hb dX10_doesMore_135 (lv_at hl 0 rfl) ?_
            refine lv_iconst (v := 4) hx hb dX10_doesMore_137 (by decide) ?_
            refine lv_icmp_eq (tgt := 143) hx hb dX10_doesMore_138 (by decide) (fun c_42 => ?_) (fun c_42 => ?_)
            · skip
              refine lv_aload_n hx hb dX10_doesMore_143 rfl (lv_at hl 2 rfl) ?_
              refine lv_dup hx hb dX10_doesMore_144 rfl ?_
              refine h_get15 X hw dX10_doesMore_145 ?_
              refine lv_iconst (v := 1) hx hb dX10_doesMore_148 (by decide) ?_
              refine lv_isub hx hb dX10_doesMore_149 ?_
              refine h_put15 X hw hS (nsub (a := d) (b := 1) (by omega) rfl rfl) dX10_doesMore_150 (fun H locs hw hS => ?_)
              refine lv_aload_n hx hb dX10_doesMore_153 rfl (lv_at hl 2 rfl) ?_
              refine lv_iconst (v := 1) hx hb dX10_doesMore_154 (by decide) ?_
              refine m_calli (m_runV (i := .inl 0) (ci := 8) (As := [.int 1]) (rest := []) X (k_X10_push Γ l L x h (d - 1) 1 (by omega)) v_X10_push ml_X10_148 hw hS rfl rfl rfl rfl hl.1 ⟨Nat.le_of_ble_eq_true rfl, Nat.le_of_ble_eq_true rfl⟩ (Nat.le_of_ble_eq_true rfl) ⟨Nat.le_of_ble_eq_true rfl, Nat.le_of_ble_eq_true rfl⟩ dX10_doesMore_155) hS (fun r_44 L1 M1 H locs hp_43 hw hS => ?_)
              obtain ⟨q_44, e1, e2, e3⟩ := hp_43
              rw [e1, e2] at hw; clear e1 e2
              rcases ho_44 : p_push (h, (d - 1)) 1 with _ | ⟨h_44, d_44⟩
              · rw [ho_44] at e3; subst e3
                exact m_zret (b := false) X hr hlk hw hS (Nat.zero_le _) (Nat.zero_le _) rfl ⟨(q_44.1, q_44.2), rfl, rfl, by clear K706 hb hx hl hS hw hnm hlk hr X; first | exact absurd ht (by omega) | (simp_all [bI, p_more, p_29, p_isL]; done) | (rw [p_more_out (by assumption)]; rfl) | (subst h33; subst ev; have z := p_pops_none (show p_pops (t + 1) (h, d) = none by rw [p_pops, hp]; assumption) u; rw [show t + 1 + u = pm tt by omega] at z; simp [p_more, p_33, h1, hctt, z, bI]; done) | (have e9 : t = pm tt := (by omega); subst h33; subst ev; rw [e9] at hp; simp_all [p_more, p_33, bI]; done) | (simp_all [bI, Nat.pos_iff_ne_zero, p_more, p_16, p_17, p_18, p_19, p_20, p_21, p_23, p_24, p_26, p_27, p_28, p_29, p_30, p_33, p_top, p_drop, p_isRowN]; done)⟩ dX10_doesMore_158
              · rw [ho_44] at e3; obtain ⟨e3, e4⟩ := e3; subst e3; subst e4
                have hd_44 := p_push_le ho_44 (by omega)
                exact m_zret (b := true) X hr hlk hw hS (Nat.zero_le _) (Nat.zero_le _) rfl ⟨(h_44, d_44), rfl, rfl, by clear K706 hb hx hl hS hw hnm hlk hr X; first | exact absurd ht (by omega) | (simp_all [bI, p_more, p_29, p_isL]; done) | (rw [p_more_out (by assumption)]; rfl) | (subst h33; subst ev; have z := p_pops_none (show p_pops (t + 1) (h, d) = none by rw [p_pops, hp]; assumption) u; rw [show t + 1 + u = pm tt by omega] at z; simp [p_more, p_33, h1, hctt, z, bI]; done) | (have e9 : t = pm tt := (by omega); subst h33; subst ev; rw [e9] at hp; simp_all [p_more, p_33, bI]; done) | (simp_all [bI, Nat.pos_iff_ne_zero, p_more, p_16, p_17, p_18, p_19, p_20, p_21, p_23, p_24, p_26, p_27, p_28, p_29, p_30, p_33, p_top, p_drop, p_isRowN]; done)⟩ dX10_doesMore_158
            · skip
              refine lv_iconst (v := 0) hx hb dX10_doesMore_141 (by decide) ?_
              exact m_zret (b := false) X hr hlk hw hS (Nat.zero_le _) (Nat.zero_le _) rfl ⟨(h, d), rfl, rfl, by clear K706 hb hx hl hS hw hnm hlk hr X; first | exact absurd ht (by omega) | (simp_all [bI, p_more, p_29, p_isL]; done) | (rw [p_more_out (by assumption)]; rfl) | (subst h33; subst ev; have z := p_pops_none (show p_pops (t + 1) (h, d) = none by rw [p_pops, hp]; assumption) u; rw [show t + 1 + u = pm tt by omega] at z; simp [p_more, p_33, h1, hctt, z, bI]; done) | (have e9 : t = pm tt := (by omega); subst h33; subst ev; rw [e9] at hp; simp_all [p_more, p_33, bI]; done) | (simp_all [bI, Nat.pos_iff_ne_zero, p_more, p_16, p_17, p_18, p_19, p_20, p_21, p_23, p_24, p_26, p_27, p_28, p_29, p_30, p_33, p_top, p_drop, p_isRowN]; done)⟩ dX10_doesMore_142
    · have c_27e : o = 17 := Int32.toInt_inj.mp c_27v
      refine lv_tableIn (off := 152) (tgt := 159) hx hb dX10_doesMore_7 (by omega) (by omega) (by rw [c_27v]; rfl) (by decide) ?_
      refine lv_aload_n hx hb dX10_doesMore_159 rfl (lv_at hl 2 rfl) ?_
      refine lv_iconst (v := 1) hx hb dX10_doesMore_160 (by decide) ?_
      refine m_calli (m_runV (i := .inl 0) (ci := 8) (As := [.int 1]) (rest := []) X (k_X10_pop Γ l L x h d 1 (by omega)) v_X10_pop ml_X10_170 hw hS rfl rfl rfl rfl hl.1 ⟨Nat.le_of_ble_eq_true rfl, Nat.le_of_ble_eq_true rfl⟩ (Nat.le_of_ble_eq_true rfl) ⟨Nat.le_of_ble_eq_true rfl, Nat.le_of_ble_eq_true rfl⟩ dX10_doesMore_161) hS (fun r_46 L1 M1 H locs hp_45 hw hS => ?_)
      obtain ⟨q_46, e1, e2, e3⟩ := hp_45
      rw [e1, e2] at hw; clear e1 e2
      rcases ho_46 : p_pop (h, d) 1 with _ | ⟨h_46, d_46⟩
      · rw [ho_46] at e3; subst e3
        refine lv_if_eq (tgt := 187) hx hb dX10_doesMore_164 (by decide) (fun _ => ?_) (fun h => absurd rfl h)
        refine lv_iconst (v := 0) hx hb dX10_doesMore_187 (by decide) ?_
        exact m_zret (b := false) X hr hlk hw hS (Nat.zero_le _) (Nat.zero_le _) rfl ⟨(q_46.1, q_46.2), rfl, rfl, by clear K706 hb hx hl hS hw hnm hlk hr X; first | exact absurd ht (by omega) | (simp_all [bI, p_more, p_29, p_isL]; done) | (rw [p_more_out (by assumption)]; rfl) | (subst h33; subst ev; have z := p_pops_none (show p_pops (t + 1) (h, d) = none by rw [p_pops, hp]; assumption) u; rw [show t + 1 + u = pm tt by omega] at z; simp [p_more, p_33, h1, hctt, z, bI]; done) | (have e9 : t = pm tt := (by omega); subst h33; subst ev; rw [e9] at hp; simp_all [p_more, p_33, bI]; done) | (simp_all [bI, Nat.pos_iff_ne_zero, p_more, p_16, p_17, p_18, p_19, p_20, p_21, p_23, p_24, p_26, p_27, p_28, p_29, p_30, p_33, p_top, p_drop, p_isRowN]; done)⟩ dX10_doesMore_188
      · rw [ho_46] at e3; obtain ⟨e3, e4⟩ := e3; subst e3; subst e4
        have hd_46 := p_pop_le ho_46 (by omega)
        refine lv_if_eq (tgt := 187) hx hb dX10_doesMore_164 (by decide) (fun h => absurd h (by decide)) (fun _ => ?_)
        refine lv_aload_n hx hb dX10_doesMore_167 rfl (lv_at hl 2 rfl) ?_
        refine lv_iconst (v := 5) hx hb dX10_doesMore_168 (by decide) ?_
        refine m_calli (m_runV (i := .inl 0) (ci := 8) (As := [.int 5]) (rest := []) X (k_X10_pop Γ l L x h_46 d_46 5 (by omega)) v_X10_pop ml_X10_170 hw hS rfl rfl rfl rfl hl.1 ⟨Nat.le_of_ble_eq_true rfl, Nat.le_of_ble_eq_true rfl⟩ (Nat.le_of_ble_eq_true rfl) ⟨Nat.le_of_ble_eq_true rfl, Nat.le_of_ble_eq_true rfl⟩ dX10_doesMore_169) hS (fun r_50 L1 M1 H locs hp_49 hw hS => ?_)
        obtain ⟨q_50, e1, e2, e3⟩ := hp_49
        rw [e1, e2] at hw; clear e1 e2
        rcases ho_50 : p_pop (h_46, d_46) 5 with _ | ⟨h_50, d_50⟩
        · rw [ho_50] at e3; subst e3
          refine lv_if_eq (tgt := 187) hx hb dX10_doesMore_172 (by decide) (fun _ => ?_) (fun h => absurd rfl h)
          refine lv_iconst (v := 0) hx hb dX10_doesMore_187 (by decide) ?_
          exact m_zret (b := false) X hr hlk hw hS (Nat.zero_le _) (Nat.zero_le _) rfl ⟨(q_50.1, q_50.2), rfl, rfl, by clear K706 hb hx hl hS hw hnm hlk hr X; first | exact absurd ht (by omega) | (simp_all [bI, p_more, p_29, p_isL]; done) | (rw [p_more_out (by assumption)]; rfl) | (subst h33; subst ev; have z := p_pops_none (show p_pops (t + 1) (h, d) = none by rw [p_pops, hp]; assumption) u; rw [show t + 1 + u = pm tt by omega] at z; simp [p_more, p_33, h1, hctt, z, bI]; done) | (have e9 : t = pm tt := (by omega); subst h33; subst ev; rw [e9] at hp; simp_all [p_more, p_33, bI]; done) | (simp_all [bI, Nat.pos_iff_ne_zero, p_more, p_16, p_17, p_18, p_19, p_20, p_21, p_23, p_24, p_26, p_27, p_28, p_29, p_30, p_33, p_top, p_drop, p_isRowN]; done)⟩ dX10_doesMore_188
        · rw [ho_50] at e3; obtain ⟨e3, e4⟩ := e3; subst e3; subst e4
          have hd_50 := p_pop_le ho_50 (by omega)
          refine lv_if_eq (tgt := 187) hx hb dX10_doesMore_172 (by decide) (fun h => absurd h (by decide)) (fun _ => ?_)
          refine lv_aload_n hx hb dX10_doesMore_175 rfl (lv_at hl 2 rfl) ?_
          refine lv_iconst (v := 1) hx hb dX10_doesMore_176 (by decide) ?_
          refine m_calli (m_runV (i := .inl 0) (ci := 8) (As := [.int 1]) (rest := []) X (k_X10_push Γ l L x h_50 d_50 1 (by omega)) v_X10_push ml_X10_148 hw hS rfl rfl rfl rfl hl.1 ⟨Nat.le_of_ble_eq_true rfl, Nat.le_of_ble_eq_true rfl⟩ (Nat.le_of_ble_eq_true rfl) ⟨Nat.le_of_ble_eq_true rfl, Nat.le_of_ble_eq_true rfl⟩ dX10_doesMore_177) hS (fun r_54 L1 M1 H locs hp_53 hw hS => ?_)
          obtain ⟨q_54, e1, e2, e3⟩ := hp_53
          rw [e1, e2] at hw; clear e1 e2
          rcases ho_54 : p_push (h_50, d_50) 1 with _ | ⟨h_54, d_54⟩
          · rw [ho_54] at e3; subst e3
            refine lv_if_eq (tgt := 187) hx hb dX10_doesMore_180 (by decide) (fun _ => ?_) (fun h => absurd rfl h)
            refine lv_iconst (v := 0) hx hb dX10_doesMore_187 (by decide) ?_
            exact m_zret (b := false) X hr hlk hw hS (Nat.zero_le _) (Nat.zero_le _) rfl ⟨(q_54.1, q_54.2), rfl, rfl, by clear K706 hb hx hl hS hw hnm hlk hr X; first | exact absurd ht (by omega) | (simp_all [bI, p_more, p_29, p_isL]; done) | (rw [p_more_out (by assumption)]; rfl) | (subst h33; subst ev; have z := p_pops_none (show p_pops (t + 1) (h, d) = none by rw [p_pops, hp]; assumption) u; rw [show t + 1 + u = pm tt by omega] at z; simp [p_more, p_33, h1, hctt, z, bI]; done) | (have e9 : t = pm tt := (by omega); subst h33; subst ev; rw [e9] at hp; simp_all [p_more, p_33, bI]; done) | (simp_all [bI, Nat.pos_iff_ne_zero, p_more, p_16, p_17, p_18, p_19, p_20, p_21, p_23, p_24, p_26, p_27, p_28, p_29, p_30, p_33, p_top, p_drop, p_isRowN]; done)⟩ dX10_doesMore_188
          · rw [ho_54] at e3; obtain ⟨e3, e4⟩ := e3; subst e3; subst e4
            have hd_54 := p_push_le ho_54 (by omega)
            refine lv_if_eq (tgt := 187) hx hb dX10_doesMore_180 (by decide) (fun h => absurd h (by decide)) (fun _ => ?_)
            refine lv_iconst (v := 1) hx hb dX10_doesMore_183 (by decide) ?_
            refine lv_goto (tgt := 188) hx hb dX10_doesMore_184 (by decide) ?_
            exact m_zret (b := true) X hr hlk hw hS (Nat.zero_le _) (Nat.zero_le _) rfl ⟨(h_54, d_54), rfl, rfl, by clear K706 hb hx hl hS hw hnm hlk hr X; first | exact absurd ht (by omega) | (simp_all [bI, p_more, p_29, p_isL]; done) | (rw [p_more_out (by assumption)]; rfl) | (subst h33; subst ev; have z := p_pops_none (show p_pops (t + 1) (h, d) = none by rw [p_pops, hp]; assumption) u; rw [show t + 1 + u = pm tt by omega] at z; simp [p_more, p_33, h1, hctt, z, bI]; done) | (have e9 : t = pm tt := (by omega); subst h33; subst ev; rw [e9] at hp; simp_all [p_more, p_33, bI]; done) | (simp_all [bI, Nat.pos_iff_ne_zero, p_more, p_16, p_17, p_18, p_19, p_20, p_21, p_23, p_24, p_26, p_27, p_28, p_29, p_30, p_33, p_top, p_drop, p_isRowN]; done)⟩ dX10_doesMore_188
    · have c_27e : o = 18 := Int32.toInt_inj.mp c_27v
      refine lv_tableIn (off := 182) (tgt := 189) hx hb dX10_doesMore_7 (by omega) (by omega) (by rw [c_27v]; rfl) (by decide) ?_
      refine lv_aload_n hx hb dX10_doesMore_189 rfl (lv_at hl 2 rfl) ?_
      refine lv_iconst (v := 1) hx hb dX10_doesMore_190 (by decide) ?_
      refine m_calli (m_runV (i := .inl 0) (ci := 8) (As := [.int 1]) (rest := []) X (k_X10_pop Γ l L x h d 1 (by omega)) v_X10_pop ml_X10_170 hw hS rfl rfl rfl rfl hl.1 ⟨Nat.le_of_ble_eq_true rfl, Nat.le_of_ble_eq_true rfl⟩ (Nat.le_of_ble_eq_true rfl) ⟨Nat.le_of_ble_eq_true rfl, Nat.le_of_ble_eq_true rfl⟩ dX10_doesMore_191) hS (fun r_58 L1 M1 H locs hp_57 hw hS => ?_)
      obtain ⟨q_58, e1, e2, e3⟩ := hp_57
      rw [e1, e2] at hw; clear e1 e2
      rcases ho_58 : p_pop (h, d) 1 with _ | ⟨h_58, d_58⟩
      · rw [ho_58] at e3; subst e3
        refine lv_if_eq (tgt := 217) hx hb dX10_doesMore_194 (by decide) (fun _ => ?_) (fun h => absurd rfl h)
        refine lv_iconst (v := 0) hx hb dX10_doesMore_217 (by decide) ?_
        exact m_zret (b := false) X hr hlk hw hS (Nat.zero_le _) (Nat.zero_le _) rfl ⟨(q_58.1, q_58.2), rfl, rfl, by clear K706 hb hx hl hS hw hnm hlk hr X; first | exact absurd ht (by omega) | (simp_all [bI, p_more, p_29, p_isL]; done) | (rw [p_more_out (by assumption)]; rfl) | (subst h33; subst ev; have z := p_pops_none (show p_pops (t + 1) (h, d) = none by rw [p_pops, hp]; assumption) u; rw [show t + 1 + u = pm tt by omega] at z; simp [p_more, p_33, h1, hctt, z, bI]; done) | (have e9 : t = pm tt := (by omega); subst h33; subst ev; rw [e9] at hp; simp_all [p_more, p_33, bI]; done) | (simp_all [bI, Nat.pos_iff_ne_zero, p_more, p_16, p_17, p_18, p_19, p_20, p_21, p_23, p_24, p_26, p_27, p_28, p_29, p_30, p_33, p_top, p_drop, p_isRowN]; done)⟩ dX10_doesMore_218
      · rw [ho_58] at e3; obtain ⟨e3, e4⟩ := e3; subst e3; subst e4
        have hd_58 := p_pop_le ho_58 (by omega)
        refine lv_if_eq (tgt := 217) hx hb dX10_doesMore_194 (by decide) (fun h => absurd h (by decide)) (fun _ => ?_)
        refine lv_aload_n hx hb dX10_doesMore_197 rfl (lv_at hl 2 rfl) ?_
        refine lv_iconst (v := 1) hx hb dX10_doesMore_198 (by decide) ?_
        refine m_calli (m_runV (i := .inl 0) (ci := 8) (As := [.int 1]) (rest := []) X (k_X10_pop Γ l L x h_58 d_58 1 (by omega)) v_X10_pop ml_X10_170 hw hS rfl rfl rfl rfl hl.1 ⟨Nat.le_of_ble_eq_true rfl, Nat.le_of_ble_eq_true rfl⟩ (Nat.le_of_ble_eq_true rfl) ⟨Nat.le_of_ble_eq_true rfl, Nat.le_of_ble_eq_true rfl⟩ dX10_doesMore_199) hS (fun r_62 L1 M1 H locs hp_61 hw hS => ?_)
        obtain ⟨q_62, e1, e2, e3⟩ := hp_61
        rw [e1, e2] at hw; clear e1 e2
        rcases ho_62 : p_pop (h_58, d_58) 1 with _ | ⟨h_62, d_62⟩
        · rw [ho_62] at e3; subst e3
          refine lv_if_eq (tgt := 217) hx hb dX10_doesMore_202 (by decide) (fun _ => ?_) (fun h => absurd rfl h)
          refine lv_iconst (v := 0) hx hb dX10_doesMore_217 (by decide) ?_
          exact m_zret (b := false) X hr hlk hw hS (Nat.zero_le _) (Nat.zero_le _) rfl ⟨(q_62.1, q_62.2), rfl, rfl, by clear K706 hb hx hl hS hw hnm hlk hr X; first | exact absurd ht (by omega) | (simp_all [bI, p_more, p_29, p_isL]; done) | (rw [p_more_out (by assumption)]; rfl) | (subst h33; subst ev; have z := p_pops_none (show p_pops (t + 1) (h, d) = none by rw [p_pops, hp]; assumption) u; rw [show t + 1 + u = pm tt by omega] at z; simp [p_more, p_33, h1, hctt, z, bI]; done) | (have e9 : t = pm tt := (by omega); subst h33; subst ev; rw [e9] at hp; simp_all [p_more, p_33, bI]; done) | (simp_all [bI, Nat.pos_iff_ne_zero, p_more, p_16, p_17, p_18, p_19, p_20, p_21, p_23, p_24, p_26, p_27, p_28, p_29, p_30, p_33, p_top, p_drop, p_isRowN]; done)⟩ dX10_doesMore_218
        · rw [ho_62] at e3; obtain ⟨e3, e4⟩ := e3; subst e3; subst e4
          have hd_62 := p_pop_le ho_62 (by omega)
          refine lv_if_eq (tgt := 217) hx hb dX10_doesMore_202 (by decide) (fun h => absurd h (by decide)) (fun _ => ?_)
          refine lv_aload_n hx hb dX10_doesMore_205 rfl (lv_at hl 2 rfl) ?_
          refine lv_iconst (v := 5) hx hb dX10_doesMore_206 (by decide) ?_
          refine m_calli (m_runV (i := .inl 0) (ci := 8) (As := [.int 5]) (rest := []) X (k_X10_pop Γ l L x h_62 d_62 5 (by omega)) v_X10_pop ml_X10_170 hw hS rfl rfl rfl rfl hl.1 ⟨Nat.le_of_ble_eq_true rfl, Nat.le_of_ble_eq_true rfl⟩ (Nat.le_of_ble_eq_true rfl) ⟨Nat.le_of_ble_eq_true rfl, Nat.le_of_ble_eq_true rfl⟩ dX10_doesMore_207) hS (fun r_66 L1 M1 H locs hp_65 hw hS => ?_)
          obtain ⟨q_66, e1, e2, e3⟩ := hp_65
          rw [e1, e2] at hw; clear e1 e2
          rcases ho_66 : p_pop (h_62, d_62) 5 with _ | ⟨h_66, d_66⟩
          · rw [ho_66] at e3; subst e3
            refine lv_if_eq (tgt := 217) hx hb dX10_doesMore_210 (by decide) (fun _ => ?_) (fun h => absurd rfl h)
            refine lv_iconst (v := 0) hx hb dX10_doesMore_217 (by decide) ?_
            exact m_zret (b := false) X hr hlk hw hS (Nat.zero_le _) (Nat.zero_le _) rfl ⟨(q_66.1, q_66.2), rfl, rfl, by clear K706 hb hx hl hS hw hnm hlk hr X; first | exact absurd ht (by omega) | (simp_all [bI, p_more, p_29, p_isL]; done) | (rw [p_more_out (by assumption)]; rfl) | (subst h33; subst ev; have z := p_pops_none (show p_pops (t + 1) (h, d) = none by rw [p_pops, hp]; assumption) u; rw [show t + 1 + u = pm tt by omega] at z; simp [p_more, p_33, h1, hctt, z, bI]; done) | (have e9 : t = pm tt := (by omega); subst h33; subst ev; rw [e9] at hp; simp_all [p_more, p_33, bI]; done) | (simp_all [bI, Nat.pos_iff_ne_zero, p_more, p_16, p_17, p_18, p_19, p_20, p_21, p_23, p_24, p_26, p_27, p_28, p_29, p_30, p_33, p_top, p_drop, p_isRowN]; done)⟩ dX10_doesMore_218
          · rw [ho_66] at e3; obtain ⟨e3, e4⟩ := e3; subst e3; subst e4
            have hd_66 := p_pop_le ho_66 (by omega)
            refine lv_if_eq (tgt := 217) hx hb dX10_doesMore_210 (by decide) (fun h => absurd h (by decide)) (fun _ => ?_)
            refine lv_iconst (v := 1) hx hb dX10_doesMore_213 (by decide) ?_
            refine lv_goto (tgt := 218) hx hb dX10_doesMore_214 (by decide) ?_
            exact m_zret (b := true) X hr hlk hw hS (Nat.zero_le _) (Nat.zero_le _) rfl ⟨(h_66, d_66), rfl, rfl, by clear K706 hb hx hl hS hw hnm hlk hr X; first | exact absurd ht (by omega) | (simp_all [bI, p_more, p_29, p_isL]; done) | (rw [p_more_out (by assumption)]; rfl) | (subst h33; subst ev; have z := p_pops_none (show p_pops (t + 1) (h, d) = none by rw [p_pops, hp]; assumption) u; rw [show t + 1 + u = pm tt by omega] at z; simp [p_more, p_33, h1, hctt, z, bI]; done) | (have e9 : t = pm tt := (by omega); subst h33; subst ev; rw [e9] at hp; simp_all [p_more, p_33, bI]; done) | (simp_all [bI, Nat.pos_iff_ne_zero, p_more, p_16, p_17, p_18, p_19, p_20, p_21, p_23, p_24, p_26, p_27, p_28, p_29, p_30, p_33, p_top, p_drop, p_isRowN]; done)⟩ dX10_doesMore_218
    · have c_27e : o = 19 := Int32.toInt_inj.mp c_27v
      refine lv_tableIn (off := 212) (tgt := 219) hx hb dX10_doesMore_7 (by omega) (by omega) (by rw [c_27v]; rfl) (by decide) ?_
      refine lv_aload_n hx hb dX10_doesMore_219 rfl (lv_at hl 2 rfl) ?_
      refine lv_iconst (v := 1) hx hb dX10_doesMore_220 (by decide) ?_
      refine m_calli (m_runV (i := .inl 0) (ci := 8) (As := [.int 1]) (rest := []) X (k_X10_pop Γ l L x h d 1 (by omega)) v_X10_pop ml_X10_170 hw hS rfl rfl rfl rfl hl.1 ⟨Nat.le_of_ble_eq_true rfl, Nat.le_of_ble_eq_true rfl⟩ (Nat.le_of_ble_eq_true rfl) ⟨Nat.le_of_ble_eq_true rfl, Nat.le_of_ble_eq_true rfl⟩ dX10_doesMore_221) hS (fun r_70 L1 M1 H locs hp_69 hw hS => ?_)
      obtain ⟨q_70, e1, e2, e3⟩ := hp_69
      rw [e1, e2] at hw; clear e1 e2
      rcases ho_70 : p_pop (h, d) 1 with _ | ⟨h_70, d_70⟩
      · rw [ho_70] at e3; subst e3
        refine lv_if_eq (tgt := 234) hx hb dX10_doesMore_224 (by decide) (fun _ => ?_) (fun h => absurd rfl h)
        refine lv_iconst (v := 0) hx hb dX10_doesMore_234 (by decide) ?_
        exact m_zret (b := false) X hr hlk hw hS (Nat.zero_le _) (Nat.zero_le _) rfl ⟨(q_70.1, q_70.2), rfl, rfl, by clear K706 hb hx hl hS hw hnm hlk hr X; first | exact absurd ht (by omega) | (simp_all [bI, p_more, p_29, p_isL]; done) | (rw [p_more_out (by assumption)]; rfl) | (subst h33; subst ev; have z := p_pops_none (show p_pops (t + 1) (h, d) = none by rw [p_pops, hp]; assumption) u; rw [show t + 1 + u = pm tt by omega] at z; simp [p_more, p_33, h1, hctt, z, bI]; done) | (have e9 : t = pm tt := (by omega); subst h33; subst ev; rw [e9] at hp; simp_all [p_more, p_33, bI]; done) | (simp_all [bI, Nat.pos_iff_ne_zero, p_more, p_16, p_17, p_18, p_19, p_20, p_21, p_23, p_24, p_26, p_27, p_28, p_29, p_30, p_33, p_top, p_drop, p_isRowN]; done)⟩ dX10_doesMore_235
      · rw [ho_70] at e3; obtain ⟨e3, e4⟩ := e3; subst e3; subst e4
        have hd_70 := p_pop_le ho_70 (by omega)
        refine lv_if_eq (tgt := 234) hx hb dX10_doesMore_224 (by decide) (fun h => absurd h (by decide)) (fun _ => ?_)
        refine lv_aload_n hx hb dX10_doesMore_227 rfl (lv_at hl 2 rfl) ?_
        refine h_get15 X hw dX10_doesMore_228 ?_
        refine lv_if_ne (tgt := 236) hx hb dX10_doesMore_231 (by decide) (fun c_73 => ?_) (fun c_73 => ?_)
        · skip
          have c_73n : ¬ d_70 = 0 := nneT (a := d_70) (b := 0) rfl rfl (by omega) (by omega) c_73
          refine lv_aload_n hx hb dX10_doesMore_236 rfl (lv_at hl 2 rfl) ?_
          refine r_get14 X hw dX10_doesMore_237 ?_
          refine lv_bipush (v := 7) hx hb dX10_doesMore_240 (by decide) ?_
          refine lv_aload_n hx hb dX10_doesMore_242 rfl (lv_at hl 2 rfl) ?_
          refine h_get15 X hw dX10_doesMore_243 ?_
          refine lv_iadd hx hb dX10_doesMore_246 ?_
          refine h_ald14 X hw (nadd (a := 7) (b := d_70) rfl rfl) (by omega) dX10_doesMore_247 ?_
          refine lv_istore (lv' := [(6, .int (h_70 (7 + d_70))), (7, .int 0), (0, .ref (L (.inl 0))), (1, .int a), (2, .int b), (3, .int o), (4, .long v)]) hx hb dX10_doesMore_248 hl (by decide) rfl (fun ls hl => ?_)
          refine lv_iload hx hb dX10_doesMore_250 (lv_at hl 0 rfl) ?_
          refine m_calli (m_runS (As := [.int (h_70 (7 + d_70))]) (rest := []) X (k_X10_isRow Γ l L (rM Γ L (sH x (h_70, d_70))) (h_70 (7 + d_70))) s_X10_isRow ml_X10_99 hw hS rfl hl.1 ⟨Nat.le_of_ble_eq_true rfl, Nat.le_of_ble_eq_true rfl⟩ (Nat.le_of_ble_eq_true rfl) ⟨Nat.le_of_ble_eq_true rfl, Nat.le_of_ble_eq_true rfl⟩ dX10_doesMore_252) hS (fun r_75 L1 M1 H locs hp_74 hw hS => ?_)
          obtain ⟨rfl, e1, e2⟩ := hp_74
          rw [e1, e2] at hw; clear e1 e2
          refine lv_if_ne (tgt := 266) hx hb dX10_doesMore_255 (by decide) (fun c_76 => ?_) (fun c_76 => ?_)
          · skip
            have c_76 := bI_t c_76
            refine lv_aload_n hx hb dX10_doesMore_266 rfl (lv_at hl 2 rfl) ?_
            refine lv_dup hx hb dX10_doesMore_267 rfl ?_
            refine h_get15 X hw dX10_doesMore_268 ?_
            refine lv_iconst (v := 1) hx hb dX10_doesMore_271 (by decide) ?_
            refine lv_isub hx hb dX10_doesMore_272 ?_
            refine h_put15 X hw hS (nsub (a := d_70) (b := 1) (by omega) rfl rfl) dX10_doesMore_273 (fun H locs hw hS => ?_)
            refine lv_aload_n hx hb dX10_doesMore_276 rfl (lv_at hl 2 rfl) ?_
            refine lv_iload hx hb dX10_doesMore_277 (lv_at hl 0 rfl) ?_
            refine lv_iconst (v := 4) hx hb dX10_doesMore_279 (by decide) ?_
            refine lv_icmp_ne (tgt := 287) hx hb dX10_doesMore_280 (by decide) (fun c_77 => ?_) (fun c_77 => ?_)
            · skip
              refine lv_bipush (v := 10) hx hb dX10_doesMore_287 (by decide) ?_
              refine lv_iload hx hb dX10_doesMore_289 (lv_at hl 0 rfl) ?_
              refine lv_iadd hx hb dX10_doesMore_291 ?_
              refine lv_bipush (v := 20) hx hb dX10_doesMore_292 (by decide) ?_
              refine lv_isub hx hb dX10_doesMore_294 ?_
              refine m_calli (m_runV (i := .inl 0) (ci := 8) (As := [.int ((10 + (h_70 (7 + d_70))) - 20)]) (rest := []) X (k_X10_push Γ l L x h_70 (d_70 - 1) ((10 + (h_70 (7 + d_70))) - 20) (by omega)) v_X10_push ml_X10_148 hw hS rfl rfl rfl rfl hl.1 ⟨Nat.le_of_ble_eq_true rfl, Nat.le_of_ble_eq_true rfl⟩ (Nat.le_of_ble_eq_true rfl) ⟨Nat.le_of_ble_eq_true rfl, Nat.le_of_ble_eq_true rfl⟩ dX10_doesMore_295) hS (fun r_79 L1 M1 H locs hp_78 hw hS => ?_)
              obtain ⟨q_79, e1, e2, e3⟩ := hp_78
              rw [e1, e2] at hw; clear e1 e2
              rcases ho_79 : p_push (h_70, (d_70 - 1)) ((10 + (h_70 (7 + d_70))) - 20) with _ | ⟨h_79, d_79⟩
              · rw [ho_79] at e3; subst e3
                exact m_zret (b := false) X hr hlk hw hS (Nat.zero_le _) (Nat.zero_le _) rfl ⟨(q_79.1, q_79.2), rfl, rfl, by clear K706 hb hx hl hS hw hnm hlk hr X; first | exact absurd ht (by omega) | (simp_all [bI, p_more, p_29, p_isL]; done) | (rw [p_more_out (by assumption)]; rfl) | (subst h33; subst ev; have z := p_pops_none (show p_pops (t + 1) (h, d) = none by rw [p_pops, hp]; assumption) u; rw [show t + 1 + u = pm tt by omega] at z; simp [p_more, p_33, h1, hctt, z, bI]; done) | (have e9 : t = pm tt := (by omega); subst h33; subst ev; rw [e9] at hp; simp_all [p_more, p_33, bI]; done) | (simp_all [bI, Nat.pos_iff_ne_zero, p_more, p_16, p_17, p_18, p_19, p_20, p_21, p_23, p_24, p_26, p_27, p_28, p_29, p_30, p_33, p_top, p_drop, p_isRowN]; done)⟩ dX10_doesMore_298
              · rw [ho_79] at e3; obtain ⟨e3, e4⟩ := e3; subst e3; subst e4
                have hd_79 := p_push_le ho_79 (by omega)
                exact m_zret (b := true) X hr hlk hw hS (Nat.zero_le _) (Nat.zero_le _) rfl ⟨(h_79, d_79), rfl, rfl, by clear K706 hb hx hl hS hw hnm hlk hr X; first | exact absurd ht (by omega) | (simp_all [bI, p_more, p_29, p_isL]; done) | (rw [p_more_out (by assumption)]; rfl) | (subst h33; subst ev; have z := p_pops_none (show p_pops (t + 1) (h, d) = none by rw [p_pops, hp]; assumption) u; rw [show t + 1 + u = pm tt by omega] at z; simp [p_more, p_33, h1, hctt, z, bI]; done) | (have e9 : t = pm tt := (by omega); subst h33; subst ev; rw [e9] at hp; simp_all [p_more, p_33, bI]; done) | (simp_all [bI, Nat.pos_iff_ne_zero, p_more, p_16, p_17, p_18, p_19, p_20, p_21, p_23, p_24, p_26, p_27, p_28, p_29, p_30, p_33, p_top, p_drop, p_isRowN]; done)⟩ dX10_doesMore_298
            · skip
              refine lv_iconst (v := 4) hx hb dX10_doesMore_283 (by decide) ?_
              refine lv_goto (tgt := 295) hx hb dX10_doesMore_284 (by decide) ?_
              refine m_calli (m_runV (i := .inl 0) (ci := 8) (As := [.int 4]) (rest := []) X (k_X10_push Γ l L x h_70 (d_70 - 1) 4 (by omega)) v_X10_push ml_X10_148 hw hS rfl rfl rfl rfl hl.1 ⟨Nat.le_of_ble_eq_true rfl, Nat.le_of_ble_eq_true rfl⟩ (Nat.le_of_ble_eq_true rfl) ⟨Nat.le_of_ble_eq_true rfl, Nat.le_of_ble_eq_true rfl⟩ dX10_doesMore_295) hS (fun r_81 L1 M1 H locs hp_80 hw hS => ?_)
              obtain ⟨q_81, e1, e2, e3⟩ := hp_80
              rw [e1, e2] at hw; clear e1 e2
              rcases ho_81 : p_push (h_70, (d_70 - 1)) 4 with _ | ⟨h_81, d_81⟩
              · rw [ho_81] at e3; subst e3
                exact m_zret (b := false) X hr hlk hw hS (Nat.zero_le _) (Nat.zero_le _) rfl ⟨(q_81.1, q_81.2), rfl, rfl, by clear K706 hb hx hl hS hw hnm hlk hr X; first | exact absurd ht (by omega) | (simp_all [bI, p_more, p_29, p_isL]; done) | (rw [p_more_out (by assumption)]; rfl) | (subst h33; subst ev; have z := p_pops_none (show p_pops (t + 1) (h, d) = none by rw [p_pops, hp]; assumption) u; rw [show t + 1 + u = pm tt by omega] at z; simp [p_more, p_33, h1, hctt, z, bI]; done) | (have e9 : t = pm tt := (by omega); subst h33; subst ev; rw [e9] at hp; simp_all [p_more, p_33, bI]; done) | (simp_all [bI, Nat.pos_iff_ne_zero, p_more, p_16, p_17, p_18, p_19, p_20, p_21, p_23, p_24, p_26, p_27, p_28, p_29, p_30, p_33, p_top, p_drop, p_isRowN]; done)⟩ dX10_doesMore_298
              · rw [ho_81] at e3; obtain ⟨e3, e4⟩ := e3; subst e3; subst e4
                have hd_81 := p_push_le ho_81 (by omega)
                exact m_zret (b := true) X hr hlk hw hS (Nat.zero_le _) (Nat.zero_le _) rfl ⟨(h_81, d_81), rfl, rfl, by clear K706 hb hx hl hS hw hnm hlk hr X; first | exact absurd ht (by omega) | (simp_all [bI, p_more, p_29, p_isL]; done) | (rw [p_more_out (by assumption)]; rfl) | (subst h33; subst ev; have z := p_pops_none (show p_pops (t + 1) (h, d) = none by rw [p_pops, hp]; assumption) u; rw [show t + 1 + u = pm tt by omega] at z; simp [p_more, p_33, h1, hctt, z, bI]; done) | (have e9 : t = pm tt := (by omega); subst h33; subst ev; rw [e9] at hp; simp_all [p_more, p_33, bI]; done) | (simp_all [bI, Nat.pos_iff_ne_zero, p_more, p_16, p_17, p_18, p_19, p_20, p_21, p_23, p_24, p_26, p_27, p_28, p_29, p_30, p_33, p_top, p_drop, p_isRowN]; done)⟩ dX10_doesMore_298
          · skip
            have c_76 := bI_f c_76
            refine lv_iload hx hb dX10_doesMore_258 (lv_at hl 0 rfl) ?_
            refine lv_iconst (v := 4) hx hb dX10_doesMore_260 (by decide) ?_
            refine lv_icmp_eq (tgt := 266) hx hb dX10_doesMore_261 (by decide) (fun c_82 => ?_) (fun c_82 => ?_)
            · skip
              refine lv_aload_n hx hb dX10_doesMore_266 rfl (lv_at hl 2 rfl) ?_
              refine lv_dup hx hb dX10_doesMore_267 rfl ?_
              refine h_get15 X hw dX10_doesMore_268 ?_
              refine lv_iconst (v := 1) hx hb dX10_doesMore_271 (by decide) ?_
              refine lv_isub hx hb dX10_doesMore_272 ?_
              refine h_put15 X hw hS (nsub (a := d_70) (b := 1) (by omega) rfl rfl) dX10_doesMore_273 (fun H locs hw hS => ?_)
              refine lv_aload_n hx hb dX10_doesMore_276 rfl (lv_at hl 2 rfl) ?_
              refine lv_iload hx hb dX10_doesMore_277 (lv_at hl 0 rfl) ?_
              refine lv_iconst (v := 4) hx hb dX10_doesMore_279 (by decide) ?_
              refine lv_icmp_ne (tgt := 287) hx hb dX10_doesMore_280 (by decide) (fun c_83 => ?_) (fun c_83 => ?_)
              · skip
                refine lv_bipush (v := 10) hx hb dX10_doesMore_287 (by decide) ?_
                refine lv_iload hx hb dX10_doesMore_289 (lv_at hl 0 rfl) ?_
                refine lv_iadd hx hb dX10_doesMore_291 ?_
                refine lv_bipush (v := 20) hx hb dX10_doesMore_292 (by decide) ?_
                refine lv_isub hx hb dX10_doesMore_294 ?_
                refine m_calli (m_runV (i := .inl 0) (ci := 8) (As := [.int ((10 + (h_70 (7 + d_70))) - 20)]) (rest := []) X (k_X10_push Γ l L x h_70 (d_70 - 1) ((10 + (h_70 (7 + d_70))) - 20) (by omega)) v_X10_push ml_X10_148 hw hS rfl rfl rfl rfl hl.1 ⟨Nat.le_of_ble_eq_true rfl, Nat.le_of_ble_eq_true rfl⟩ (Nat.le_of_ble_eq_true rfl) ⟨Nat.le_of_ble_eq_true rfl, Nat.le_of_ble_eq_true rfl⟩ dX10_doesMore_295) hS (fun r_85 L1 M1 H locs hp_84 hw hS => ?_)
                obtain ⟨q_85, e1, e2, e3⟩ := hp_84
                rw [e1, e2] at hw; clear e1 e2
                rcases ho_85 : p_push (h_70, (d_70 - 1)) ((10 + (h_70 (7 + d_70))) - 20) with _ | ⟨h_85, d_85⟩
                · rw [ho_85] at e3; subst e3
                  exact m_zret (b := false) X hr hlk hw hS (Nat.zero_le _) (Nat.zero_le _) rfl ⟨(q_85.1, q_85.2), rfl, rfl, by clear K706 hb hx hl hS hw hnm hlk hr X; first | exact absurd ht (by omega) | (simp_all [bI, p_more, p_29, p_isL]; done) | (rw [p_more_out (by assumption)]; rfl) | (subst h33; subst ev; have z := p_pops_none (show p_pops (t + 1) (h, d) = none by rw [p_pops, hp]; assumption) u; rw [show t + 1 + u = pm tt by omega] at z; simp [p_more, p_33, h1, hctt, z, bI]; done) | (have e9 : t = pm tt := (by omega); subst h33; subst ev; rw [e9] at hp; simp_all [p_more, p_33, bI]; done) | (simp_all [bI, Nat.pos_iff_ne_zero, p_more, p_16, p_17, p_18, p_19, p_20, p_21, p_23, p_24, p_26, p_27, p_28, p_29, p_30, p_33, p_top, p_drop, p_isRowN]; done)⟩ dX10_doesMore_298
                · rw [ho_85] at e3; obtain ⟨e3, e4⟩ := e3; subst e3; subst e4
                  have hd_85 := p_push_le ho_85 (by omega)
                  exact m_zret (b := true) X hr hlk hw hS (Nat.zero_le _) (Nat.zero_le _) rfl ⟨(h_85, d_85), rfl, rfl, by clear K706 hb hx hl hS hw hnm hlk hr X; first | exact absurd ht (by omega) | (simp_all [bI, p_more, p_29, p_isL]; done) | (rw [p_more_out (by assumption)]; rfl) | (subst h33; subst ev; have z := p_pops_none (show p_pops (t + 1) (h, d) = none by rw [p_pops, hp]; assumption) u; rw [show t + 1 + u = pm tt by omega] at z; simp [p_more, p_33, h1, hctt, z, bI]; done) | (have e9 : t = pm tt := (by omega); subst h33; subst ev; rw [e9] at hp; simp_all [p_more, p_33, bI]; done) | (simp_all [bI, Nat.pos_iff_ne_zero, p_more, p_16, p_17, p_18, p_19, p_20, p_21, p_23, p_24, p_26, p_27, p_28, p_29, p_30, p_33, p_top, p_drop, p_isRowN]; done)⟩ dX10_doesMore_298
              · skip
                refine lv_iconst (v := 4) hx hb dX10_doesMore_283 (by decide) ?_
                refine lv_goto (tgt := 295) hx hb dX10_doesMore_284 (by decide) ?_
                refine m_calli (m_runV (i := .inl 0) (ci := 8) (As := [.int 4]) (rest := []) X (k_X10_push Γ l L x h_70 (d_70 - 1) 4 (by omega)) v_X10_push ml_X10_148 hw hS rfl rfl rfl rfl hl.1 ⟨Nat.le_of_ble_eq_true rfl, Nat.le_of_ble_eq_true rfl⟩ (Nat.le_of_ble_eq_true rfl) ⟨Nat.le_of_ble_eq_true rfl, Nat.le_of_ble_eq_true rfl⟩ dX10_doesMore_295) hS (fun r_87 L1 M1 H locs hp_86 hw hS => ?_)
                obtain ⟨q_87, e1, e2, e3⟩ := hp_86
                rw [e1, e2] at hw; clear e1 e2
                rcases ho_87 : p_push (h_70, (d_70 - 1)) 4 with _ | ⟨h_87, d_87⟩
                · rw [ho_87] at e3; subst e3
                  exact m_zret (b := false) X hr hlk hw hS (Nat.zero_le _) (Nat.zero_le _) rfl ⟨(q_87.1, q_87.2), rfl, rfl, by clear K706 hb hx hl hS hw hnm hlk hr X; first | exact absurd ht (by omega) | (simp_all [bI, p_more, p_29, p_isL]; done) | (rw [p_more_out (by assumption)]; rfl) | (subst h33; subst ev; have z := p_pops_none (show p_pops (t + 1) (h, d) = none by rw [p_pops, hp]; assumption) u; rw [show t + 1 + u = pm tt by omega] at z; simp [p_more, p_33, h1, hctt, z, bI]; done) | (have e9 : t = pm tt := (by omega); subst h33; subst ev; rw [e9] at hp; simp_all [p_more, p_33, bI]; done) | (simp_all [bI, Nat.pos_iff_ne_zero, p_more, p_16, p_17, p_18, p_19, p_20, p_21, p_23, p_24, p_26, p_27, p_28, p_29, p_30, p_33, p_top, p_drop, p_isRowN]; done)⟩ dX10_doesMore_298
                · rw [ho_87] at e3; obtain ⟨e3, e4⟩ := e3; subst e3; subst e4
                  have hd_87 := p_push_le ho_87 (by omega)
                  exact m_zret (b := true) X hr hlk hw hS (Nat.zero_le _) (Nat.zero_le _) rfl ⟨(h_87, d_87), rfl, rfl, by clear K706 hb hx hl hS hw hnm hlk hr X; first | exact absurd ht (by omega) | (simp_all [bI, p_more, p_29, p_isL]; done) | (rw [p_more_out (by assumption)]; rfl) | (subst h33; subst ev; have z := p_pops_none (show p_pops (t + 1) (h, d) = none by rw [p_pops, hp]; assumption) u; rw [show t + 1 + u = pm tt by omega] at z; simp [p_more, p_33, h1, hctt, z, bI]; done) | (have e9 : t = pm tt := (by omega); subst h33; subst ev; rw [e9] at hp; simp_all [p_more, p_33, bI]; done) | (simp_all [bI, Nat.pos_iff_ne_zero, p_more, p_16, p_17, p_18, p_19, p_20, p_21, p_23, p_24, p_26, p_27, p_28, p_29, p_30, p_33, p_top, p_drop, p_isRowN]; done)⟩ dX10_doesMore_298
            · skip
              refine lv_iconst (v := 0) hx hb dX10_doesMore_264 (by decide) ?_
              exact m_zret (b := false) X hr hlk hw hS (Nat.zero_le _) (Nat.zero_le _) rfl ⟨(h_70, d_70), rfl, rfl, by clear K706 hb hx hl hS hw hnm hlk hr X; first | exact absurd ht (by omega) | (simp_all [bI, p_more, p_29, p_isL]; done) | (rw [p_more_out (by assumption)]; rfl) | (subst h33; subst ev; have z := p_pops_none (show p_pops (t + 1) (h, d) = none by rw [p_pops, hp]; assumption) u; rw [show t + 1 + u = pm tt by omega] at z; simp [p_more, p_33, h1, hctt, z, bI]; done) | (have e9 : t = pm tt := (by omega); subst h33; subst ev; rw [e9] at hp; simp_all [p_more, p_33, bI]; done) | (simp_all [bI, Nat.pos_iff_ne_zero, p_more, p_16, p_17, p_18, p_19, p_20, p_21, p_23, p_24, p_26, p_27, p_28, p_29, p_30, p_33, p_top, p_drop, p_isRowN]; done)⟩ dX10_doesMore_265
        · skip
          have c_73n : d_70 = 0 := nneF (a := d_70) (b := 0) rfl rfl (by omega) (by omega) c_73
          refine lv_iconst (v := 0) hx hb dX10_doesMore_234 (by decide) ?_
          exact m_zret (b := false) X hr hlk hw hS (Nat.zero_le _) (Nat.zero_le _) rfl ⟨(h_70, d_70), rfl, rfl, by clear K706 hb hx hl hS hw hnm hlk hr X; first | exact absurd ht (by omega) | (simp_all [bI, p_more, p_29, p_isL]; done) | (rw [p_more_out (by assumption)]; rfl) | (subst h33; subst ev; have z := p_pops_none (show p_pops (t + 1) (h, d) = none by rw [p_pops, hp]; assumption) u; rw [show t + 1 + u = pm tt by omega] at z; simp [p_more, p_33, h1, hctt, z, bI]; done) | (have e9 : t = pm tt := (by omega); subst h33; subst ev; rw [e9] at hp; simp_all [p_more, p_33, bI]; done) | (simp_all [bI, Nat.pos_iff_ne_zero, p_more, p_16, p_17, p_18, p_19, p_20, p_21, p_23, p_24, p_26, p_27, p_28, p_29, p_30, p_33, p_top, p_drop, p_isRowN]; done)⟩ dX10_doesMore_235
    · have c_27e : o = 20 := Int32.toInt_inj.mp c_27v
      refine lv_tableIn (off := 292) (tgt := 299) hx hb dX10_doesMore_7 (by omega) (by omega) (by rw [c_27v]; rfl) (by decide) ?_
      refine lv_aload_n hx hb dX10_doesMore_299 rfl (lv_at hl 2 rfl) ?_
      refine lv_bipush (v := 10) hx hb dX10_doesMore_300 (by decide) ?_
      refine m_calli (m_runV (i := .inl 0) (ci := 8) (As := [.int 10]) (rest := []) X (k_X10_pop Γ l L x h d 10 (by omega)) v_X10_pop ml_X10_170 hw hS rfl rfl rfl rfl hl.1 ⟨Nat.le_of_ble_eq_true rfl, Nat.le_of_ble_eq_true rfl⟩ (Nat.le_of_ble_eq_true rfl) ⟨Nat.le_of_ble_eq_true rfl, Nat.le_of_ble_eq_true rfl⟩ dX10_doesMore_302) hS (fun r_89 L1 M1 H locs hp_88 hw hS => ?_)
      obtain ⟨q_89, e1, e2, e3⟩ := hp_88
      rw [e1, e2] at hw; clear e1 e2
      rcases ho_89 : p_pop (h, d) 10 with _ | ⟨h_89, d_89⟩
      · rw [ho_89] at e3; subst e3
        refine lv_if_eq (tgt := 357) hx hb dX10_doesMore_305 (by decide) (fun _ => ?_) (fun h => absurd rfl h)
        refine lv_iconst (v := 0) hx hb dX10_doesMore_357 (by decide) ?_
        exact m_zret (b := false) X hr hlk hw hS (Nat.zero_le _) (Nat.zero_le _) rfl ⟨(q_89.1, q_89.2), rfl, rfl, by clear K706 hb hx hl hS hw hnm hlk hr X; first | exact absurd ht (by omega) | (simp_all [bI, p_more, p_29, p_isL]; done) | (rw [p_more_out (by assumption)]; rfl) | (subst h33; subst ev; have z := p_pops_none (show p_pops (t + 1) (h, d) = none by rw [p_pops, hp]; assumption) u; rw [show t + 1 + u = pm tt by omega] at z; simp [p_more, p_33, h1, hctt, z, bI]; done) | (have e9 : t = pm tt := (by omega); subst h33; subst ev; rw [e9] at hp; simp_all [p_more, p_33, bI]; done) | (simp_all [bI, Nat.pos_iff_ne_zero, p_more, p_16, p_17, p_18, p_19, p_20, p_21, p_23, p_24, p_26, p_27, p_28, p_29, p_30, p_33, p_top, p_drop, p_isRowN]; done)⟩ dX10_doesMore_358
      · rw [ho_89] at e3; obtain ⟨e3, e4⟩ := e3; subst e3; subst e4
        have hd_89 := p_pop_le ho_89 (by omega)
        refine lv_if_eq (tgt := 357) hx hb dX10_doesMore_305 (by decide) (fun h => absurd h (by decide)) (fun _ => ?_)
        refine lv_aload_n hx hb dX10_doesMore_308 rfl (lv_at hl 2 rfl) ?_
        refine lv_iconst (v := 1) hx hb dX10_doesMore_309 (by decide) ?_
        refine m_calli (m_runV (i := .inl 0) (ci := 8) (As := [.int 1]) (rest := []) X (k_X10_pop Γ l L x h_89 d_89 1 (by omega)) v_X10_pop ml_X10_170 hw hS rfl rfl rfl rfl hl.1 ⟨Nat.le_of_ble_eq_true rfl, Nat.le_of_ble_eq_true rfl⟩ (Nat.le_of_ble_eq_true rfl) ⟨Nat.le_of_ble_eq_true rfl, Nat.le_of_ble_eq_true rfl⟩ dX10_doesMore_310) hS (fun r_93 L1 M1 H locs hp_92 hw hS => ?_)
        obtain ⟨q_93, e1, e2, e3⟩ := hp_92
        rw [e1, e2] at hw; clear e1 e2
        rcases ho_93 : p_pop (h_89, d_89) 1 with _ | ⟨h_93, d_93⟩
        · rw [ho_93] at e3; subst e3
          refine lv_if_eq (tgt := 357) hx hb dX10_doesMore_313 (by decide) (fun _ => ?_) (fun h => absurd rfl h)
          refine lv_iconst (v := 0) hx hb dX10_doesMore_357 (by decide) ?_
          exact m_zret (b := false) X hr hlk hw hS (Nat.zero_le _) (Nat.zero_le _) rfl ⟨(q_93.1, q_93.2), rfl, rfl, by clear K706 hb hx hl hS hw hnm hlk hr X; first | exact absurd ht (by omega) | (simp_all [bI, p_more, p_29, p_isL]; done) | (rw [p_more_out (by assumption)]; rfl) | (subst h33; subst ev; have z := p_pops_none (show p_pops (t + 1) (h, d) = none by rw [p_pops, hp]; assumption) u; rw [show t + 1 + u = pm tt by omega] at z; simp [p_more, p_33, h1, hctt, z, bI]; done) | (have e9 : t = pm tt := (by omega); subst h33; subst ev; rw [e9] at hp; simp_all [p_more, p_33, bI]; done) | (simp_all [bI, Nat.pos_iff_ne_zero, p_more, p_16, p_17, p_18, p_19, p_20, p_21, p_23, p_24, p_26, p_27, p_28, p_29, p_30, p_33, p_top, p_drop, p_isRowN]; done)⟩ dX10_doesMore_358
        · rw [ho_93] at e3; obtain ⟨e3, e4⟩ := e3; subst e3; subst e4
          have hd_93 := p_pop_le ho_93 (by omega)
          refine lv_if_eq (tgt := 357) hx hb dX10_doesMore_313 (by decide) (fun h => absurd h (by decide)) (fun _ => ?_)
          refine lv_aload_n hx hb dX10_doesMore_316 rfl (lv_at hl 2 rfl) ?_
          refine h_get15 X hw dX10_doesMore_317 ?_
          refine lv_if_eq (tgt := 357) hx hb dX10_doesMore_320 (by decide) (fun c_96 => ?_) (fun c_96 => ?_)
          · skip
            have c_96n : d_93 = 0 := neqT (a := d_93) (b := 0) rfl rfl (by omega) (by omega) c_96
            refine lv_iconst (v := 0) hx hb dX10_doesMore_357 (by decide) ?_
            exact m_zret (b := false) X hr hlk hw hS (Nat.zero_le _) (Nat.zero_le _) rfl ⟨(h_93, d_93), rfl, rfl, by clear K706 hb hx hl hS hw hnm hlk hr X; first | exact absurd ht (by omega) | (simp_all [bI, p_more, p_29, p_isL]; done) | (rw [p_more_out (by assumption)]; rfl) | (subst h33; subst ev; have z := p_pops_none (show p_pops (t + 1) (h, d) = none by rw [p_pops, hp]; assumption) u; rw [show t + 1 + u = pm tt by omega] at z; simp [p_more, p_33, h1, hctt, z, bI]; done) | (have e9 : t = pm tt := (by omega); subst h33; subst ev; rw [e9] at hp; simp_all [p_more, p_33, bI]; done) | (simp_all [bI, Nat.pos_iff_ne_zero, p_more, p_16, p_17, p_18, p_19, p_20, p_21, p_23, p_24, p_26, p_27, p_28, p_29, p_30, p_33, p_top, p_drop, p_isRowN]; done)⟩ dX10_doesMore_358
          · skip
            have c_96n : ¬ d_93 = 0 := neqF (a := d_93) (b := 0) rfl rfl (by omega) (by omega) c_96
            refine lv_aload_n hx hb dX10_doesMore_323 rfl (lv_at hl 2 rfl) ?_
            refine r_get14 X hw dX10_doesMore_324 ?_
            refine lv_bipush (v := 7) hx hb dX10_doesMore_327 (by decide) ?_
            refine lv_aload_n hx hb dX10_doesMore_329 rfl (lv_at hl 2 rfl) ?_
            refine h_get15 X hw dX10_doesMore_330 ?_
            refine lv_iadd hx hb dX10_doesMore_333 ?_
            refine h_ald14 X hw (nadd (a := 7) (b := d_93) rfl rfl) (by omega) dX10_doesMore_334 ?_
            refine m_calli (m_runS (As := [.int (h_93 (7 + d_93))]) (rest := []) X (k_X10_isRow Γ l L (rM Γ L (sH x (h_93, d_93))) (h_93 (7 + d_93))) s_X10_isRow ml_X10_99 hw hS rfl hl.1 ⟨Nat.le_of_ble_eq_true rfl, Nat.le_of_ble_eq_true rfl⟩ (Nat.le_of_ble_eq_true rfl) ⟨Nat.le_of_ble_eq_true rfl, Nat.le_of_ble_eq_true rfl⟩ dX10_doesMore_335) hS (fun r_98 L1 M1 H locs hp_97 hw hS => ?_)
            obtain ⟨rfl, e1, e2⟩ := hp_97
            rw [e1, e2] at hw; clear e1 e2
            refine lv_if_ne (tgt := 359) hx hb dX10_doesMore_338 (by decide) (fun c_99 => ?_) (fun c_99 => ?_)
            · skip
              have c_99 := bI_t c_99
              refine lv_aload_n hx hb dX10_doesMore_359 rfl (lv_at hl 2 rfl) ?_
              refine lv_dup hx hb dX10_doesMore_360 rfl ?_
              refine h_get15 X hw dX10_doesMore_361 ?_
              refine lv_iconst (v := 1) hx hb dX10_doesMore_364 (by decide) ?_
              refine lv_isub hx hb dX10_doesMore_365 ?_
              refine h_put15 X hw hS (nsub (a := d_93) (b := 1) (by omega) rfl rfl) dX10_doesMore_366 (fun H locs hw hS => ?_)
              refine lv_iconst (v := 1) hx hb dX10_doesMore_369 (by decide) ?_
              exact m_zret (b := true) X hr hlk hw hS (Nat.zero_le _) (Nat.zero_le _) rfl ⟨(h_93, d_93 - 1), rfl, rfl, by clear K706 hb hx hl hS hw hnm hlk hr X; first | exact absurd ht (by omega) | (simp_all [bI, p_more, p_29, p_isL]; done) | (rw [p_more_out (by assumption)]; rfl) | (subst h33; subst ev; have z := p_pops_none (show p_pops (t + 1) (h, d) = none by rw [p_pops, hp]; assumption) u; rw [show t + 1 + u = pm tt by omega] at z; simp [p_more, p_33, h1, hctt, z, bI]; done) | (have e9 : t = pm tt := (by omega); subst h33; subst ev; rw [e9] at hp; simp_all [p_more, p_33, bI]; done) | (simp_all [bI, Nat.pos_iff_ne_zero, p_more, p_16, p_17, p_18, p_19, p_20, p_21, p_23, p_24, p_26, p_27, p_28, p_29, p_30, p_33, p_top, p_drop, p_isRowN]; done)⟩ dX10_doesMore_370
            · skip
              have c_99 := bI_f c_99
              refine lv_aload_n hx hb dX10_doesMore_341 rfl (lv_at hl 2 rfl) ?_
              refine r_get14 X hw dX10_doesMore_342 ?_
              refine lv_bipush (v := 7) hx hb dX10_doesMore_345 (by decide) ?_
              refine lv_aload_n hx hb dX10_doesMore_347 rfl (lv_at hl 2 rfl) ?_
              refine h_get15 X hw dX10_doesMore_348 ?_
              refine lv_iadd hx hb dX10_doesMore_351 ?_
              refine h_ald14 X hw (nadd (a := 7) (b := d_93) rfl rfl) (by omega) dX10_doesMore_352 ?_
              refine lv_iconst (v := 4) hx hb dX10_doesMore_353 (by decide) ?_
              refine lv_icmp_eq (tgt := 359) hx hb dX10_doesMore_354 (by decide) (fun c_100 => ?_) (fun c_100 => ?_)
              · skip
                refine lv_aload_n hx hb dX10_doesMore_359 rfl (lv_at hl 2 rfl) ?_
                refine lv_dup hx hb dX10_doesMore_360 rfl ?_
                refine h_get15 X hw dX10_doesMore_361 ?_
                refine lv_iconst (v := 1) hx hb dX10_doesMore_364 (by decide) ?_
                refine lv_isub hx hb dX10_doesMore_365 ?_
                refine h_put15 X hw hS (nsub (a := d_93) (b := 1) (by omega) rfl rfl) dX10_doesMore_366 (fun H locs hw hS => ?_)
                refine lv_iconst (v := 1) hx hb dX10_doesMore_369 (by decide) ?_
                exact m_zret (b := true) X hr hlk hw hS (Nat.zero_le _) (Nat.zero_le _) rfl ⟨(h_93, d_93 - 1), rfl, rfl, by clear K706 hb hx hl hS hw hnm hlk hr X; first | exact absurd ht (by omega) | (simp_all [bI, p_more, p_29, p_isL]; done) | (rw [p_more_out (by assumption)]; rfl) | (subst h33; subst ev; have z := p_pops_none (show p_pops (t + 1) (h, d) = none by rw [p_pops, hp]; assumption) u; rw [show t + 1 + u = pm tt by omega] at z; simp [p_more, p_33, h1, hctt, z, bI]; done) | (have e9 : t = pm tt := (by omega); subst h33; subst ev; rw [e9] at hp; simp_all [p_more, p_33, bI]; done) | (simp_all [bI, Nat.pos_iff_ne_zero, p_more, p_16, p_17, p_18, p_19, p_20, p_21, p_23, p_24, p_26, p_27, p_28, p_29, p_30, p_33, p_top, p_drop, p_isRowN]; done)⟩ dX10_doesMore_370
              · skip
                refine lv_iconst (v := 0) hx hb dX10_doesMore_357 (by decide) ?_
                exact m_zret (b := false) X hr hlk hw hS (Nat.zero_le _) (Nat.zero_le _) rfl ⟨(h_93, d_93), rfl, rfl, by clear K706 hb hx hl hS hw hnm hlk hr X; first | exact absurd ht (by omega) | (simp_all [bI, p_more, p_29, p_isL]; done) | (rw [p_more_out (by assumption)]; rfl) | (subst h33; subst ev; have z := p_pops_none (show p_pops (t + 1) (h, d) = none by rw [p_pops, hp]; assumption) u; rw [show t + 1 + u = pm tt by omega] at z; simp [p_more, p_33, h1, hctt, z, bI]; done) | (have e9 : t = pm tt := (by omega); subst h33; subst ev; rw [e9] at hp; simp_all [p_more, p_33, bI]; done) | (simp_all [bI, Nat.pos_iff_ne_zero, p_more, p_16, p_17, p_18, p_19, p_20, p_21, p_23, p_24, p_26, p_27, p_28, p_29, p_30, p_33, p_top, p_drop, p_isRowN]; done)⟩ dX10_doesMore_358
    · have c_27e : o = 21 := Int32.toInt_inj.mp c_27v
      refine lv_tableIn (off := 364) (tgt := 371) hx hb dX10_doesMore_7 (by omega) (by omega) (by rw [c_27v]; rfl) (by decide) ?_
      refine lv_lload hx hb dX10_doesMore_371 (lv_at hl 6 rfl) ?_
      refine lv_lconst (v := 0) hx hb dX10_doesMore_373 (by decide) ?_
      refine lv_ldc2 (v := (7)) hx hb X.1.2.2.2.1 (X.1.2.2.2.2 _ kl_X10_139) dX10_doesMore_374 ?_
      refine m_calli (m_runS (As := [.long v, .long 0, .long (7)]) (rest := []) X (k_X10_isIn Γ l L (rM Γ L (sH x (h, d))) v 0 (7)) s_X10_isIn ml_X10_79 hw hS rfl hl.1 ⟨Nat.le_of_ble_eq_true rfl, Nat.le_of_ble_eq_true rfl⟩ (Nat.le_of_ble_eq_true rfl) ⟨Nat.le_of_ble_eq_true rfl, Nat.le_of_ble_eq_true rfl⟩ dX10_doesMore_377) hS (fun r_102 L1 M1 H locs hp_101 hw hS => ?_)
      obtain ⟨rfl, e1, e2⟩ := hp_101
      rw [e1, e2] at hw; clear e1 e2
      refine lv_if_eq (tgt := 419) hx hb dX10_doesMore_380 (by decide) (fun c_103 => ?_) (fun c_103 => ?_)
      · skip
        have c_103 := bI_f c_103
        refine lv_iconst (v := 0) hx hb dX10_doesMore_419 (by decide) ?_
        exact m_zret (b := false) X hr hlk hw hS (Nat.zero_le _) (Nat.zero_le _) rfl ⟨(h, d), rfl, rfl, by clear K706 hb hx hl hS hw hnm hlk hr X; first | exact absurd ht (by omega) | (simp_all [bI, p_more, p_29, p_isL]; done) | (rw [p_more_out (by assumption)]; rfl) | (subst h33; subst ev; have z := p_pops_none (show p_pops (t + 1) (h, d) = none by rw [p_pops, hp]; assumption) u; rw [show t + 1 + u = pm tt by omega] at z; simp [p_more, p_33, h1, hctt, z, bI]; done) | (have e9 : t = pm tt := (by omega); subst h33; subst ev; rw [e9] at hp; simp_all [p_more, p_33, bI]; done) | (simp_all [bI, Nat.pos_iff_ne_zero, p_more, p_16, p_17, p_18, p_19, p_20, p_21, p_23, p_24, p_26, p_27, p_28, p_29, p_30, p_33, p_top, p_drop, p_isRowN]; done)⟩ dX10_doesMore_420
      · skip
        have c_103 := bI_t c_103
        refine lv_aload_n hx hb dX10_doesMore_383 rfl (lv_at hl 2 rfl) ?_
        refine lv_bipush (v := 10) hx hb dX10_doesMore_384 (by decide) ?_
        refine m_calli (m_runV (i := .inl 0) (ci := 8) (As := [.int 10]) (rest := []) X (k_X10_pop Γ l L x h d 10 (by omega)) v_X10_pop ml_X10_170 hw hS rfl rfl rfl rfl hl.1 ⟨Nat.le_of_ble_eq_true rfl, Nat.le_of_ble_eq_true rfl⟩ (Nat.le_of_ble_eq_true rfl) ⟨Nat.le_of_ble_eq_true rfl, Nat.le_of_ble_eq_true rfl⟩ dX10_doesMore_386) hS (fun r_105 L1 M1 H locs hp_104 hw hS => ?_)
        obtain ⟨q_105, e1, e2, e3⟩ := hp_104
        rw [e1, e2] at hw; clear e1 e2
        rcases ho_105 : p_pop (h, d) 10 with _ | ⟨h_105, d_105⟩
        · rw [ho_105] at e3; subst e3
          refine lv_if_eq (tgt := 419) hx hb dX10_doesMore_389 (by decide) (fun _ => ?_) (fun h => absurd rfl h)
          refine lv_iconst (v := 0) hx hb dX10_doesMore_419 (by decide) ?_
          exact m_zret (b := false) X hr hlk hw hS (Nat.zero_le _) (Nat.zero_le _) rfl ⟨(q_105.1, q_105.2), rfl, rfl, by clear K706 hb hx hl hS hw hnm hlk hr X; first | exact absurd ht (by omega) | (simp_all [bI, p_more, p_29, p_isL]; done) | (rw [p_more_out (by assumption)]; rfl) | (subst h33; subst ev; have z := p_pops_none (show p_pops (t + 1) (h, d) = none by rw [p_pops, hp]; assumption) u; rw [show t + 1 + u = pm tt by omega] at z; simp [p_more, p_33, h1, hctt, z, bI]; done) | (have e9 : t = pm tt := (by omega); subst h33; subst ev; rw [e9] at hp; simp_all [p_more, p_33, bI]; done) | (simp_all [bI, Nat.pos_iff_ne_zero, p_more, p_16, p_17, p_18, p_19, p_20, p_21, p_23, p_24, p_26, p_27, p_28, p_29, p_30, p_33, p_top, p_drop, p_isRowN]; done)⟩ dX10_doesMore_420
        · rw [ho_105] at e3; obtain ⟨e3, e4⟩ := e3; subst e3; subst e4
          have hd_105 := p_pop_le ho_105 (by omega)
          refine lv_if_eq (tgt := 419) hx hb dX10_doesMore_389 (by decide) (fun h => absurd h (by decide)) (fun _ => ?_)
          refine lv_aload_n hx hb dX10_doesMore_392 rfl (lv_at hl 2 rfl) ?_
          refine lv_iload_n hx hb dX10_doesMore_393 rfl (lv_at hl 5 rfl) ?_
          refine lv_bipush (v := 21) hx hb dX10_doesMore_394 (by decide) ?_
          refine lv_icmp_ne (tgt := 408) hx hb dX10_doesMore_396 (by decide) (fun c_108 => ?_) (fun c_108 => ?_)
          · skip
            refine lv_iconst (v := 1) hx hb dX10_doesMore_408 (by decide) ?_
            refine m_calli (m_runV (i := .inl 0) (ci := 8) (As := [.int 1]) (rest := []) X (k_X10_push Γ l L x h_105 d_105 1 (by omega)) v_X10_push ml_X10_148 hw hS rfl rfl rfl rfl hl.1 ⟨Nat.le_of_ble_eq_true rfl, Nat.le_of_ble_eq_true rfl⟩ (Nat.le_of_ble_eq_true rfl) ⟨Nat.le_of_ble_eq_true rfl, Nat.le_of_ble_eq_true rfl⟩ dX10_doesMore_409) hS (fun r_110 L1 M1 H locs hp_109 hw hS => ?_)
            obtain ⟨q_110, e1, e2, e3⟩ := hp_109
            rw [e1, e2] at hw; clear e1 e2
            rcases ho_110 : p_push (h_105, d_105) 1 with _ | ⟨h_110, d_110⟩
            · rw [ho_110] at e3; subst e3
              refine lv_if_eq (tgt := 419) hx hb dX10_doesMore_412 (by decide) (fun _ => ?_) (fun h => absurd rfl h)
              refine lv_iconst (v := 0) hx hb dX10_doesMore_419 (by decide) ?_
              exact m_zret (b := false) X hr hlk hw hS (Nat.zero_le _) (Nat.zero_le _) rfl ⟨(q_110.1, q_110.2), rfl, rfl, by clear K706 hb hx hl hS hw hnm hlk hr X; first | exact absurd ht (by omega) | (simp_all [bI, p_more, p_29, p_isL]; done) | (rw [p_more_out (by assumption)]; rfl) | (subst h33; subst ev; have z := p_pops_none (show p_pops (t + 1) (h, d) = none by rw [p_pops, hp]; assumption) u; rw [show t + 1 + u = pm tt by omega] at z; simp [p_more, p_33, h1, hctt, z, bI]; done) | (have e9 : t = pm tt := (by omega); subst h33; subst ev; rw [e9] at hp; simp_all [p_more, p_33, bI]; done) | (simp_all [bI, Nat.pos_iff_ne_zero, p_more, p_16, p_17, p_18, p_19, p_20, p_21, p_23, p_24, p_26, p_27, p_28, p_29, p_30, p_33, p_top, p_drop, p_isRowN]; done)⟩ dX10_doesMore_420
            · rw [ho_110] at e3; obtain ⟨e3, e4⟩ := e3; subst e3; subst e4
              have hd_110 := p_push_le ho_110 (by omega)
              refine lv_if_eq (tgt := 419) hx hb dX10_doesMore_412 (by decide) (fun h => absurd h (by decide)) (fun _ => ?_)
              refine lv_iconst (v := 1) hx hb dX10_doesMore_415 (by decide) ?_
              refine lv_goto (tgt := 420) hx hb dX10_doesMore_416 (by decide) ?_
              exact m_zret (b := true) X hr hlk hw hS (Nat.zero_le _) (Nat.zero_le _) rfl ⟨(h_110, d_110), rfl, rfl, by clear K706 hb hx hl hS hw hnm hlk hr X; first | exact absurd ht (by omega) | (simp_all [bI, p_more, p_29, p_isL]; done) | (rw [p_more_out (by assumption)]; rfl) | (subst h33; subst ev; have z := p_pops_none (show p_pops (t + 1) (h, d) = none by rw [p_pops, hp]; assumption) u; rw [show t + 1 + u = pm tt by omega] at z; simp [p_more, p_33, h1, hctt, z, bI]; done) | (have e9 : t = pm tt := (by omega); subst h33; subst ev; rw [e9] at hp; simp_all [p_more, p_33, bI]; done) | (simp_all [bI, Nat.pos_iff_ne_zero, p_more, p_16, p_17, p_18, p_19, p_20, p_21, p_23, p_24, p_26, p_27, p_28, p_29, p_30, p_33, p_top, p_drop, p_isRowN]; done)⟩ dX10_doesMore_420
          · skip
            refine lv_bipush (v := 10) hx hb dX10_doesMore_399 (by decide) ?_
            refine lv_lload hx hb dX10_doesMore_401 (lv_at hl 6 rfl) ?_
            refine lv_l2i (v := v.toInt32) hx hb dX10_doesMore_403 rfl ?_
            refine lv_iadd hx hb dX10_doesMore_404 ?_
            refine lv_goto (tgt := 409) hx hb dX10_doesMore_405 (by decide) ?_
            refine m_calli (m_runV (i := .inl 0) (ci := 8) (As := [.int (10 + v.toInt32)]) (rest := []) X (k_X10_push Γ l L x h_105 d_105 (10 + v.toInt32) (by omega)) v_X10_push ml_X10_148 hw hS rfl rfl rfl rfl hl.1 ⟨Nat.le_of_ble_eq_true rfl, Nat.le_of_ble_eq_true rfl⟩ (Nat.le_of_ble_eq_true rfl) ⟨Nat.le_of_ble_eq_true rfl, Nat.le_of_ble_eq_true rfl⟩ dX10_doesMore_409) hS (fun r_114 L1 M1 H locs hp_113 hw hS => ?_)
            obtain ⟨q_114, e1, e2, e3⟩ := hp_113
            rw [e1, e2] at hw; clear e1 e2
            rcases ho_114 : p_push (h_105, d_105) (10 + v.toInt32) with _ | ⟨h_114, d_114⟩
            · rw [ho_114] at e3; subst e3
              refine lv_if_eq (tgt := 419) hx hb dX10_doesMore_412 (by decide) (fun _ => ?_) (fun h => absurd rfl h)
              refine lv_iconst (v := 0) hx hb dX10_doesMore_419 (by decide) ?_
              exact m_zret (b := false) X hr hlk hw hS (Nat.zero_le _) (Nat.zero_le _) rfl ⟨(q_114.1, q_114.2), rfl, rfl, by clear K706 hb hx hl hS hw hnm hlk hr X; first | exact absurd ht (by omega) | (simp_all [bI, p_more, p_29, p_isL]; done) | (rw [p_more_out (by assumption)]; rfl) | (subst h33; subst ev; have z := p_pops_none (show p_pops (t + 1) (h, d) = none by rw [p_pops, hp]; assumption) u; rw [show t + 1 + u = pm tt by omega] at z; simp [p_more, p_33, h1, hctt, z, bI]; done) | (have e9 : t = pm tt := (by omega); subst h33; subst ev; rw [e9] at hp; simp_all [p_more, p_33, bI]; done) | (simp_all [bI, Nat.pos_iff_ne_zero, p_more, p_16, p_17, p_18, p_19, p_20, p_21, p_23, p_24, p_26, p_27, p_28, p_29, p_30, p_33, p_top, p_drop, p_isRowN]; done)⟩ dX10_doesMore_420
            · rw [ho_114] at e3; obtain ⟨e3, e4⟩ := e3; subst e3; subst e4
              have hd_114 := p_push_le ho_114 (by omega)
              refine lv_if_eq (tgt := 419) hx hb dX10_doesMore_412 (by decide) (fun h => absurd h (by decide)) (fun _ => ?_)
              refine lv_iconst (v := 1) hx hb dX10_doesMore_415 (by decide) ?_
              refine lv_goto (tgt := 420) hx hb dX10_doesMore_416 (by decide) ?_
              exact m_zret (b := true) X hr hlk hw hS (Nat.zero_le _) (Nat.zero_le _) rfl ⟨(h_114, d_114), rfl, rfl, by clear K706 hb hx hl hS hw hnm hlk hr X; first | exact absurd ht (by omega) | (simp_all [bI, p_more, p_29, p_isL]; done) | (rw [p_more_out (by assumption)]; rfl) | (subst h33; subst ev; have z := p_pops_none (show p_pops (t + 1) (h, d) = none by rw [p_pops, hp]; assumption) u; rw [show t + 1 + u = pm tt by omega] at z; simp [p_more, p_33, h1, hctt, z, bI]; done) | (have e9 : t = pm tt := (by omega); subst h33; subst ev; rw [e9] at hp; simp_all [p_more, p_33, bI]; done) | (simp_all [bI, Nat.pos_iff_ne_zero, p_more, p_16, p_17, p_18, p_19, p_20, p_21, p_23, p_24, p_26, p_27, p_28, p_29, p_30, p_33, p_top, p_drop, p_isRowN]; done)⟩ dX10_doesMore_420
    · have c_27e : o = 22 := Int32.toInt_inj.mp c_27v
      refine lv_tableIn (off := 364) (tgt := 371) hx hb dX10_doesMore_7 (by omega) (by omega) (by rw [c_27v]; rfl) (by decide) ?_
      refine lv_lload hx hb dX10_doesMore_371 (lv_at hl 6 rfl) ?_
      refine lv_lconst (v := 0) hx hb dX10_doesMore_373 (by decide) ?_
      refine lv_ldc2 (v := (7)) hx hb X.1.2.2.2.1 (X.1.2.2.2.2 _ kl_X10_139) dX10_doesMore_374 ?_
      refine m_calli (m_runS (As := [.long v, .long 0, .long (7)]) (rest := []) X (k_X10_isIn Γ l L (rM Γ L (sH x (h, d))) v 0 (7)) s_X10_isIn ml_X10_79 hw hS rfl hl.1 ⟨Nat.le_of_ble_eq_true rfl, Nat.le_of_ble_eq_true rfl⟩ (Nat.le_of_ble_eq_true rfl) ⟨Nat.le_of_ble_eq_true rfl, Nat.le_of_ble_eq_true rfl⟩ dX10_doesMore_377) hS (fun r_118 L1 M1 H locs hp_117 hw hS => ?_)
      obtain ⟨rfl, e1, e2⟩ := hp_117
      rw [e1, e2] at hw; clear e1 e2
      refine lv_if_eq (tgt := 419) hx hb dX10_doesMore_380 (by decide) (fun c_119 => ?_) (fun c_119 => ?_)
      · skip
        have c_119 := bI_f c_119
        refine lv_iconst (v := 0) hx hb dX10_doesMore_419 (by decide) ?_
        exact m_zret (b := false) X hr hlk hw hS (Nat.zero_le _) (Nat.zero_le _) rfl ⟨(h, d), rfl, rfl, by clear K706 hb hx hl hS hw hnm hlk hr X; first | exact absurd ht (by omega) | (simp_all [bI, p_more, p_29, p_isL]; done) | (rw [p_more_out (by assumption)]; rfl) | (subst h33; subst ev; have z := p_pops_none (show p_pops (t + 1) (h, d) = none by rw [p_pops, hp]; assumption) u; rw [show t + 1 + u = pm tt by omega] at z; simp [p_more, p_33, h1, hctt, z, bI]; done) | (have e9 : t = pm tt := (by omega); subst h33; subst ev; rw [e9] at hp; simp_all [p_more, p_33, bI]; done) | (simp_all [bI, Nat.pos_iff_ne_zero, p_more, p_16, p_17, p_18, p_19, p_20, p_21, p_23, p_24, p_26, p_27, p_28, p_29, p_30, p_33, p_top, p_drop, p_isRowN]; done)⟩ dX10_doesMore_420
      · skip
        have c_119 := bI_t c_119
        refine lv_aload_n hx hb dX10_doesMore_383 rfl (lv_at hl 2 rfl) ?_
        refine lv_bipush (v := 10) hx hb dX10_doesMore_384 (by decide) ?_
        refine m_calli (m_runV (i := .inl 0) (ci := 8) (As := [.int 10]) (rest := []) X (k_X10_pop Γ l L x h d 10 (by omega)) v_X10_pop ml_X10_170 hw hS rfl rfl rfl rfl hl.1 ⟨Nat.le_of_ble_eq_true rfl, Nat.le_of_ble_eq_true rfl⟩ (Nat.le_of_ble_eq_true rfl) ⟨Nat.le_of_ble_eq_true rfl, Nat.le_of_ble_eq_true rfl⟩ dX10_doesMore_386) hS (fun r_121 L1 M1 H locs hp_120 hw hS => ?_)
        obtain ⟨q_121, e1, e2, e3⟩ := hp_120
        rw [e1, e2] at hw; clear e1 e2
        rcases ho_121 : p_pop (h, d) 10 with _ | ⟨h_121, d_121⟩
        · rw [ho_121] at e3; subst e3
          refine lv_if_eq (tgt := 419) hx hb dX10_doesMore_389 (by decide) (fun _ => ?_) (fun h => absurd rfl h)
          refine lv_iconst (v := 0) hx hb dX10_doesMore_419 (by decide) ?_
          exact m_zret (b := false) X hr hlk hw hS (Nat.zero_le _) (Nat.zero_le _) rfl ⟨(q_121.1, q_121.2), rfl, rfl, by clear K706 hb hx hl hS hw hnm hlk hr X; first | exact absurd ht (by omega) | (simp_all [bI, p_more, p_29, p_isL]; done) | (rw [p_more_out (by assumption)]; rfl) | (subst h33; subst ev; have z := p_pops_none (show p_pops (t + 1) (h, d) = none by rw [p_pops, hp]; assumption) u; rw [show t + 1 + u = pm tt by omega] at z; simp [p_more, p_33, h1, hctt, z, bI]; done) | (have e9 : t = pm tt := (by omega); subst h33; subst ev; rw [e9] at hp; simp_all [p_more, p_33, bI]; done) | (simp_all [bI, Nat.pos_iff_ne_zero, p_more, p_16, p_17, p_18, p_19, p_20, p_21, p_23, p_24, p_26, p_27, p_28, p_29, p_30, p_33, p_top, p_drop, p_isRowN]; done)⟩ dX10_doesMore_420
        · rw [ho_121] at e3; obtain ⟨e3, e4⟩ := e3; subst e3; subst e4
          have hd_121 := p_pop_le ho_121 (by omega)
          refine lv_if_eq (tgt := 419) hx hb dX10_doesMore_389 (by decide) (fun h => absurd h (by decide)) (fun _ => ?_)
          refine lv_aload_n hx hb dX10_doesMore_392 rfl (lv_at hl 2 rfl) ?_
          refine lv_iload_n hx hb dX10_doesMore_393 rfl (lv_at hl 5 rfl) ?_
          refine lv_bipush (v := 21) hx hb dX10_doesMore_394 (by decide) ?_
          refine lv_icmp_ne (tgt := 408) hx hb dX10_doesMore_396 (by decide) (fun c_124 => ?_) (fun c_124 => ?_)
          · skip
            refine lv_iconst (v := 1) hx hb dX10_doesMore_408 (by decide) ?_
            refine m_calli (m_runV (i := .inl 0) (ci := 8) (As := [.int 1]) (rest := []) X (k_X10_push Γ l L x h_121 d_121 1 (by omega)) v_X10_push ml_X10_148 hw hS rfl rfl rfl rfl hl.1 ⟨Nat.le_of_ble_eq_true rfl, Nat.le_of_ble_eq_true rfl⟩ (Nat.le_of_ble_eq_true rfl) ⟨Nat.le_of_ble_eq_true rfl, Nat.le_of_ble_eq_true rfl⟩ dX10_doesMore_409) hS (fun r_126 L1 M1 H locs hp_125 hw hS => ?_)
            obtain ⟨q_126, e1, e2, e3⟩ := hp_125
            rw [e1, e2] at hw; clear e1 e2
            rcases ho_126 : p_push (h_121, d_121) 1 with _ | ⟨h_126, d_126⟩
            · rw [ho_126] at e3; subst e3
              refine lv_if_eq (tgt := 419) hx hb dX10_doesMore_412 (by decide) (fun _ => ?_) (fun h => absurd rfl h)
              refine lv_iconst (v := 0) hx hb dX10_doesMore_419 (by decide) ?_
              exact m_zret (b := false) X hr hlk hw hS (Nat.zero_le _) (Nat.zero_le _) rfl ⟨(q_126.1, q_126.2), rfl, rfl, by clear K706 hb hx hl hS hw hnm hlk hr X; first | exact absurd ht (by omega) | (simp_all [bI, p_more, p_29, p_isL]; done) | (rw [p_more_out (by assumption)]; rfl) | (subst h33; subst ev; have z := p_pops_none (show p_pops (t + 1) (h, d) = none by rw [p_pops, hp]; assumption) u; rw [show t + 1 + u = pm tt by omega] at z; simp [p_more, p_33, h1, hctt, z, bI]; done) | (have e9 : t = pm tt := (by omega); subst h33; subst ev; rw [e9] at hp; simp_all [p_more, p_33, bI]; done) | (simp_all [bI, Nat.pos_iff_ne_zero, p_more, p_16, p_17, p_18, p_19, p_20, p_21, p_23, p_24, p_26, p_27, p_28, p_29, p_30, p_33, p_top, p_drop, p_isRowN]; done)⟩ dX10_doesMore_420
            · rw [ho_126] at e3; obtain ⟨e3, e4⟩ := e3; subst e3; subst e4
              have hd_126 := p_push_le ho_126 (by omega)
              refine lv_if_eq (tgt := 419) hx hb dX10_doesMore_412 (by decide) (fun h => absurd h (by decide)) (fun _ => ?_)
              refine lv_iconst (v := 1) hx hb dX10_doesMore_415 (by decide) ?_
              refine lv_goto (tgt := 420) hx hb dX10_doesMore_416 (by decide) ?_
              exact m_zret (b := true) X hr hlk hw hS (Nat.zero_le _) (Nat.zero_le _) rfl ⟨(h_126, d_126), rfl, rfl, by clear K706 hb hx hl hS hw hnm hlk hr X; first | exact absurd ht (by omega) | (simp_all [bI, p_more, p_29, p_isL]; done) | (rw [p_more_out (by assumption)]; rfl) | (subst h33; subst ev; have z := p_pops_none (show p_pops (t + 1) (h, d) = none by rw [p_pops, hp]; assumption) u; rw [show t + 1 + u = pm tt by omega] at z; simp [p_more, p_33, h1, hctt, z, bI]; done) | (have e9 : t = pm tt := (by omega); subst h33; subst ev; rw [e9] at hp; simp_all [p_more, p_33, bI]; done) | (simp_all [bI, Nat.pos_iff_ne_zero, p_more, p_16, p_17, p_18, p_19, p_20, p_21, p_23, p_24, p_26, p_27, p_28, p_29, p_30, p_33, p_top, p_drop, p_isRowN]; done)⟩ dX10_doesMore_420
          · skip
            refine lv_bipush (v := 10) hx hb dX10_doesMore_399 (by decide) ?_
            refine lv_lload hx hb dX10_doesMore_401 (lv_at hl 6 rfl) ?_
            refine lv_l2i (v := v.toInt32) hx hb dX10_doesMore_403 rfl ?_
            refine lv_iadd hx hb dX10_doesMore_404 ?_
            refine lv_goto (tgt := 409) hx hb dX10_doesMore_405 (by decide) ?_
            refine m_calli (m_runV (i := .inl 0) (ci := 8) (As := [.int (10 + v.toInt32)]) (rest := []) X (k_X10_push Γ l L x h_121 d_121 (10 + v.toInt32) (by omega)) v_X10_push ml_X10_148 hw hS rfl rfl rfl rfl hl.1 ⟨Nat.le_of_ble_eq_true rfl, Nat.le_of_ble_eq_true rfl⟩ (Nat.le_of_ble_eq_true rfl) ⟨Nat.le_of_ble_eq_true rfl, Nat.le_of_ble_eq_true rfl⟩ dX10_doesMore_409) hS (fun r_130 L1 M1 H locs hp_129 hw hS => ?_)
            obtain ⟨q_130, e1, e2, e3⟩ := hp_129
            rw [e1, e2] at hw; clear e1 e2
            rcases ho_130 : p_push (h_121, d_121) (10 + v.toInt32) with _ | ⟨h_130, d_130⟩
            · rw [ho_130] at e3; subst e3
              refine lv_if_eq (tgt := 419) hx hb dX10_doesMore_412 (by decide) (fun _ => ?_) (fun h => absurd rfl h)
              refine lv_iconst (v := 0) hx hb dX10_doesMore_419 (by decide) ?_
              exact m_zret (b := false) X hr hlk hw hS (Nat.zero_le _) (Nat.zero_le _) rfl ⟨(q_130.1, q_130.2), rfl, rfl, by clear K706 hb hx hl hS hw hnm hlk hr X; first | exact absurd ht (by omega) | (simp_all [bI, p_more, p_29, p_isL]; done) | (rw [p_more_out (by assumption)]; rfl) | (subst h33; subst ev; have z := p_pops_none (show p_pops (t + 1) (h, d) = none by rw [p_pops, hp]; assumption) u; rw [show t + 1 + u = pm tt by omega] at z; simp [p_more, p_33, h1, hctt, z, bI]; done) | (have e9 : t = pm tt := (by omega); subst h33; subst ev; rw [e9] at hp; simp_all [p_more, p_33, bI]; done) | (simp_all [bI, Nat.pos_iff_ne_zero, p_more, p_16, p_17, p_18, p_19, p_20, p_21, p_23, p_24, p_26, p_27, p_28, p_29, p_30, p_33, p_top, p_drop, p_isRowN]; done)⟩ dX10_doesMore_420
            · rw [ho_130] at e3; obtain ⟨e3, e4⟩ := e3; subst e3; subst e4
              have hd_130 := p_push_le ho_130 (by omega)
              refine lv_if_eq (tgt := 419) hx hb dX10_doesMore_412 (by decide) (fun h => absurd h (by decide)) (fun _ => ?_)
              refine lv_iconst (v := 1) hx hb dX10_doesMore_415 (by decide) ?_
              refine lv_goto (tgt := 420) hx hb dX10_doesMore_416 (by decide) ?_
              exact m_zret (b := true) X hr hlk hw hS (Nat.zero_le _) (Nat.zero_le _) rfl ⟨(h_130, d_130), rfl, rfl, by clear K706 hb hx hl hS hw hnm hlk hr X; first | exact absurd ht (by omega) | (simp_all [bI, p_more, p_29, p_isL]; done) | (rw [p_more_out (by assumption)]; rfl) | (subst h33; subst ev; have z := p_pops_none (show p_pops (t + 1) (h, d) = none by rw [p_pops, hp]; assumption) u; rw [show t + 1 + u = pm tt by omega] at z; simp [p_more, p_33, h1, hctt, z, bI]; done) | (have e9 : t = pm tt := (by omega); subst h33; subst ev; rw [e9] at hp; simp_all [p_more, p_33, bI]; done) | (simp_all [bI, Nat.pos_iff_ne_zero, p_more, p_16, p_17, p_18, p_19, p_20, p_21, p_23, p_24, p_26, p_27, p_28, p_29, p_30, p_33, p_top, p_drop, p_isRowN]; done)⟩ dX10_doesMore_420
    · have c_27e : o = 23 := Int32.toInt_inj.mp c_27v
      refine lv_tableIn (off := 414) (tgt := 421) hx hb dX10_doesMore_7 (by omega) (by omega) (by rw [c_27v]; rfl) (by decide) ?_
      refine lv_aload_n hx hb dX10_doesMore_421 rfl (lv_at hl 2 rfl) ?_
      refine lv_bipush (v := 11) hx hb dX10_doesMore_422 (by decide) ?_
      refine m_calli (m_runV (i := .inl 0) (ci := 8) (As := [.int 11]) (rest := []) X (k_X10_pop Γ l L x h d 11 (by omega)) v_X10_pop ml_X10_170 hw hS rfl rfl rfl rfl hl.1 ⟨Nat.le_of_ble_eq_true rfl, Nat.le_of_ble_eq_true rfl⟩ (Nat.le_of_ble_eq_true rfl) ⟨Nat.le_of_ble_eq_true rfl, Nat.le_of_ble_eq_true rfl⟩ dX10_doesMore_424) hS (fun r_134 L1 M1 H locs hp_133 hw hS => ?_)
      obtain ⟨q_134, e1, e2, e3⟩ := hp_133
      rw [e1, e2] at hw; clear e1 e2
      rcases ho_134 : p_pop (h, d) 11 with _ | ⟨h_134, d_134⟩
      · rw [ho_134] at e3; subst e3
        refine lv_if_eq (tgt := 442) hx hb dX10_doesMore_427 (by decide) (fun _ => ?_) (fun h => absurd rfl h)
        refine lv_iconst (v := 0) hx hb dX10_doesMore_442 (by decide) ?_
        exact m_zret (b := false) X hr hlk hw hS (Nat.zero_le _) (Nat.zero_le _) rfl ⟨(q_134.1, q_134.2), rfl, rfl, by clear K706 hb hx hl hS hw hnm hlk hr X; first | exact absurd ht (by omega) | (simp_all [bI, p_more, p_29, p_isL]; done) | (rw [p_more_out (by assumption)]; rfl) | (subst h33; subst ev; have z := p_pops_none (show p_pops (t + 1) (h, d) = none by rw [p_pops, hp]; assumption) u; rw [show t + 1 + u = pm tt by omega] at z; simp [p_more, p_33, h1, hctt, z, bI]; done) | (have e9 : t = pm tt := (by omega); subst h33; subst ev; rw [e9] at hp; simp_all [p_more, p_33, bI]; done) | (simp_all [bI, Nat.pos_iff_ne_zero, p_more, p_16, p_17, p_18, p_19, p_20, p_21, p_23, p_24, p_26, p_27, p_28, p_29, p_30, p_33, p_top, p_drop, p_isRowN]; done)⟩ dX10_doesMore_443
      · rw [ho_134] at e3; obtain ⟨e3, e4⟩ := e3; subst e3; subst e4
        have hd_134 := p_pop_le ho_134 (by omega)
        refine lv_if_eq (tgt := 442) hx hb dX10_doesMore_427 (by decide) (fun h => absurd h (by decide)) (fun _ => ?_)
        refine lv_aload_n hx hb dX10_doesMore_430 rfl (lv_at hl 2 rfl) ?_
        refine lv_iconst (v := 1) hx hb dX10_doesMore_431 (by decide) ?_
        refine m_calli (m_runV (i := .inl 0) (ci := 8) (As := [.int 1]) (rest := []) X (k_X10_push Γ l L x h_134 d_134 1 (by omega)) v_X10_push ml_X10_148 hw hS rfl rfl rfl rfl hl.1 ⟨Nat.le_of_ble_eq_true rfl, Nat.le_of_ble_eq_true rfl⟩ (Nat.le_of_ble_eq_true rfl) ⟨Nat.le_of_ble_eq_true rfl, Nat.le_of_ble_eq_true rfl⟩ dX10_doesMore_432) hS (fun r_138 L1 M1 H locs hp_137 hw hS => ?_)
        obtain ⟨q_138, e1, e2, e3⟩ := hp_137
        rw [e1, e2] at hw; clear e1 e2
        rcases ho_138 : p_push (h_134, d_134) 1 with _ | ⟨h_138, d_138⟩
        · rw [ho_138] at e3; subst e3
          refine lv_if_eq (tgt := 442) hx hb dX10_doesMore_435 (by decide) (fun _ => ?_) (fun h => absurd rfl h)
          refine lv_iconst (v := 0) hx hb dX10_doesMore_442 (by decide) ?_
          exact m_zret (b := false) X hr hlk hw hS (Nat.zero_le _) (Nat.zero_le _) rfl ⟨(q_138.1, q_138.2), rfl, rfl, by clear K706 hb hx hl hS hw hnm hlk hr X; first | exact absurd ht (by omega) | (simp_all [bI, p_more, p_29, p_isL]; done) | (rw [p_more_out (by assumption)]; rfl) | (subst h33; subst ev; have z := p_pops_none (show p_pops (t + 1) (h, d) = none by rw [p_pops, hp]; assumption) u; rw [show t + 1 + u = pm tt by omega] at z; simp [p_more, p_33, h1, hctt, z, bI]; done) | (have e9 : t = pm tt := (by omega); subst h33; subst ev; rw [e9] at hp; simp_all [p_more, p_33, bI]; done) | (simp_all [bI, Nat.pos_iff_ne_zero, p_more, p_16, p_17, p_18, p_19, p_20, p_21, p_23, p_24, p_26, p_27, p_28, p_29, p_30, p_33, p_top, p_drop, p_isRowN]; done)⟩ dX10_doesMore_443
        · rw [ho_138] at e3; obtain ⟨e3, e4⟩ := e3; subst e3; subst e4
          have hd_138 := p_push_le ho_138 (by omega)
          refine lv_if_eq (tgt := 442) hx hb dX10_doesMore_435 (by decide) (fun h => absurd h (by decide)) (fun _ => ?_)
          refine lv_iconst (v := 1) hx hb dX10_doesMore_438 (by decide) ?_
          refine lv_goto (tgt := 443) hx hb dX10_doesMore_439 (by decide) ?_
          exact m_zret (b := true) X hr hlk hw hS (Nat.zero_le _) (Nat.zero_le _) rfl ⟨(h_138, d_138), rfl, rfl, by clear K706 hb hx hl hS hw hnm hlk hr X; first | exact absurd ht (by omega) | (simp_all [bI, p_more, p_29, p_isL]; done) | (rw [p_more_out (by assumption)]; rfl) | (subst h33; subst ev; have z := p_pops_none (show p_pops (t + 1) (h, d) = none by rw [p_pops, hp]; assumption) u; rw [show t + 1 + u = pm tt by omega] at z; simp [p_more, p_33, h1, hctt, z, bI]; done) | (have e9 : t = pm tt := (by omega); subst h33; subst ev; rw [e9] at hp; simp_all [p_more, p_33, bI]; done) | (simp_all [bI, Nat.pos_iff_ne_zero, p_more, p_16, p_17, p_18, p_19, p_20, p_21, p_23, p_24, p_26, p_27, p_28, p_29, p_30, p_33, p_top, p_drop, p_isRowN]; done)⟩ dX10_doesMore_443
    · have c_27e : o = 24 := Int32.toInt_inj.mp c_27v
      refine lv_tableIn (off := 437) (tgt := 444) hx hb dX10_doesMore_7 (by omega) (by omega) (by rw [c_27v]; rfl) (by decide) ?_
      refine lv_aload_n hx hb dX10_doesMore_444 rfl (lv_at hl 2 rfl) ?_
      refine lv_iconst (v := 1) hx hb dX10_doesMore_445 (by decide) ?_
      refine m_calli (m_runV (i := .inl 0) (ci := 8) (As := [.int 1]) (rest := []) X (k_X10_pop Γ l L x h d 1 (by omega)) v_X10_pop ml_X10_170 hw hS rfl rfl rfl rfl hl.1 ⟨Nat.le_of_ble_eq_true rfl, Nat.le_of_ble_eq_true rfl⟩ (Nat.le_of_ble_eq_true rfl) ⟨Nat.le_of_ble_eq_true rfl, Nat.le_of_ble_eq_true rfl⟩ dX10_doesMore_446) hS (fun r_142 L1 M1 H locs hp_141 hw hS => ?_)
      obtain ⟨q_142, e1, e2, e3⟩ := hp_141
      rw [e1, e2] at hw; clear e1 e2
      rcases ho_142 : p_pop (h, d) 1 with _ | ⟨h_142, d_142⟩
      · rw [ho_142] at e3; subst e3
        refine lv_if_eq (tgt := 465) hx hb dX10_doesMore_449 (by decide) (fun _ => ?_) (fun h => absurd rfl h)
        refine lv_iconst (v := 0) hx hb dX10_doesMore_465 (by decide) ?_
        exact m_zret (b := false) X hr hlk hw hS (Nat.zero_le _) (Nat.zero_le _) rfl ⟨(q_142.1, q_142.2), rfl, rfl, by clear K706 hb hx hl hS hw hnm hlk hr X; first | exact absurd ht (by omega) | (simp_all [bI, p_more, p_29, p_isL]; done) | (rw [p_more_out (by assumption)]; rfl) | (subst h33; subst ev; have z := p_pops_none (show p_pops (t + 1) (h, d) = none by rw [p_pops, hp]; assumption) u; rw [show t + 1 + u = pm tt by omega] at z; simp [p_more, p_33, h1, hctt, z, bI]; done) | (have e9 : t = pm tt := (by omega); subst h33; subst ev; rw [e9] at hp; simp_all [p_more, p_33, bI]; done) | (simp_all [bI, Nat.pos_iff_ne_zero, p_more, p_16, p_17, p_18, p_19, p_20, p_21, p_23, p_24, p_26, p_27, p_28, p_29, p_30, p_33, p_top, p_drop, p_isRowN]; done)⟩ dX10_doesMore_466
      · rw [ho_142] at e3; obtain ⟨e3, e4⟩ := e3; subst e3; subst e4
        have hd_142 := p_pop_le ho_142 (by omega)
        refine lv_if_eq (tgt := 465) hx hb dX10_doesMore_449 (by decide) (fun h => absurd h (by decide)) (fun _ => ?_)
        refine lv_aload_n hx hb dX10_doesMore_452 rfl (lv_at hl 2 rfl) ?_
        refine lv_bipush (v := 11) hx hb dX10_doesMore_453 (by decide) ?_
        refine m_calli (m_runV (i := .inl 0) (ci := 8) (As := [.int 11]) (rest := []) X (k_X10_pop Γ l L x h_142 d_142 11 (by omega)) v_X10_pop ml_X10_170 hw hS rfl rfl rfl rfl hl.1 ⟨Nat.le_of_ble_eq_true rfl, Nat.le_of_ble_eq_true rfl⟩ (Nat.le_of_ble_eq_true rfl) ⟨Nat.le_of_ble_eq_true rfl, Nat.le_of_ble_eq_true rfl⟩ dX10_doesMore_455) hS (fun r_146 L1 M1 H locs hp_145 hw hS => ?_)
        obtain ⟨q_146, e1, e2, e3⟩ := hp_145
        rw [e1, e2] at hw; clear e1 e2
        rcases ho_146 : p_pop (h_142, d_142) 11 with _ | ⟨h_146, d_146⟩
        · rw [ho_146] at e3; subst e3
          refine lv_if_eq (tgt := 465) hx hb dX10_doesMore_458 (by decide) (fun _ => ?_) (fun h => absurd rfl h)
          refine lv_iconst (v := 0) hx hb dX10_doesMore_465 (by decide) ?_
          exact m_zret (b := false) X hr hlk hw hS (Nat.zero_le _) (Nat.zero_le _) rfl ⟨(q_146.1, q_146.2), rfl, rfl, by clear K706 hb hx hl hS hw hnm hlk hr X; first | exact absurd ht (by omega) | (simp_all [bI, p_more, p_29, p_isL]; done) | (rw [p_more_out (by assumption)]; rfl) | (subst h33; subst ev; have z := p_pops_none (show p_pops (t + 1) (h, d) = none by rw [p_pops, hp]; assumption) u; rw [show t + 1 + u = pm tt by omega] at z; simp [p_more, p_33, h1, hctt, z, bI]; done) | (have e9 : t = pm tt := (by omega); subst h33; subst ev; rw [e9] at hp; simp_all [p_more, p_33, bI]; done) | (simp_all [bI, Nat.pos_iff_ne_zero, p_more, p_16, p_17, p_18, p_19, p_20, p_21, p_23, p_24, p_26, p_27, p_28, p_29, p_30, p_33, p_top, p_drop, p_isRowN]; done)⟩ dX10_doesMore_466
        · rw [ho_146] at e3; obtain ⟨e3, e4⟩ := e3; subst e3; subst e4
          have hd_146 := p_pop_le ho_146 (by omega)
          refine lv_if_eq (tgt := 465) hx hb dX10_doesMore_458 (by decide) (fun h => absurd h (by decide)) (fun _ => ?_)
          refine lv_iconst (v := 1) hx hb dX10_doesMore_461 (by decide) ?_
          refine lv_goto (tgt := 466) hx hb dX10_doesMore_462 (by decide) ?_
          exact m_zret (b := true) X hr hlk hw hS (Nat.zero_le _) (Nat.zero_le _) rfl ⟨(h_146, d_146), rfl, rfl, by clear K706 hb hx hl hS hw hnm hlk hr X; first | exact absurd ht (by omega) | (simp_all [bI, p_more, p_29, p_isL]; done) | (rw [p_more_out (by assumption)]; rfl) | (subst h33; subst ev; have z := p_pops_none (show p_pops (t + 1) (h, d) = none by rw [p_pops, hp]; assumption) u; rw [show t + 1 + u = pm tt by omega] at z; simp [p_more, p_33, h1, hctt, z, bI]; done) | (have e9 : t = pm tt := (by omega); subst h33; subst ev; rw [e9] at hp; simp_all [p_more, p_33, bI]; done) | (simp_all [bI, Nat.pos_iff_ne_zero, p_more, p_16, p_17, p_18, p_19, p_20, p_21, p_23, p_24, p_26, p_27, p_28, p_29, p_30, p_33, p_top, p_drop, p_isRowN]; done)⟩ dX10_doesMore_466
    · have c_27e : o = 25 := Int32.toInt_inj.mp c_27v
      refine lv_tableIn (off := 414) (tgt := 421) hx hb dX10_doesMore_7 (by omega) (by omega) (by rw [c_27v]; rfl) (by decide) ?_
      refine lv_aload_n hx hb dX10_doesMore_421 rfl (lv_at hl 2 rfl) ?_
      refine lv_bipush (v := 11) hx hb dX10_doesMore_422 (by decide) ?_
      refine m_calli (m_runV (i := .inl 0) (ci := 8) (As := [.int 11]) (rest := []) X (k_X10_pop Γ l L x h d 11 (by omega)) v_X10_pop ml_X10_170 hw hS rfl rfl rfl rfl hl.1 ⟨Nat.le_of_ble_eq_true rfl, Nat.le_of_ble_eq_true rfl⟩ (Nat.le_of_ble_eq_true rfl) ⟨Nat.le_of_ble_eq_true rfl, Nat.le_of_ble_eq_true rfl⟩ dX10_doesMore_424) hS (fun r_150 L1 M1 H locs hp_149 hw hS => ?_)
      obtain ⟨q_150, e1, e2, e3⟩ := hp_149
      rw [e1, e2] at hw; clear e1 e2
      rcases ho_150 : p_pop (h, d) 11 with _ | ⟨h_150, d_150⟩
      · rw [ho_150] at e3; subst e3
        refine lv_if_eq (tgt := 442) hx hb dX10_doesMore_427 (by decide) (fun _ => ?_) (fun h => absurd rfl h)
        refine lv_iconst (v := 0) hx hb dX10_doesMore_442 (by decide) ?_
        exact m_zret (b := false) X hr hlk hw hS (Nat.zero_le _) (Nat.zero_le _) rfl ⟨(q_150.1, q_150.2), rfl, rfl, by clear K706 hb hx hl hS hw hnm hlk hr X; first | exact absurd ht (by omega) | (simp_all [bI, p_more, p_29, p_isL]; done) | (rw [p_more_out (by assumption)]; rfl) | (subst h33; subst ev; have z := p_pops_none (show p_pops (t + 1) (h, d) = none by rw [p_pops, hp]; assumption) u; rw [show t + 1 + u = pm tt by omega] at z; simp [p_more, p_33, h1, hctt, z, bI]; done) | (have e9 : t = pm tt := (by omega); subst h33; subst ev; rw [e9] at hp; simp_all [p_more, p_33, bI]; done) | (simp_all [bI, Nat.pos_iff_ne_zero, p_more, p_16, p_17, p_18, p_19, p_20, p_21, p_23, p_24, p_26, p_27, p_28, p_29, p_30, p_33, p_top, p_drop, p_isRowN]; done)⟩ dX10_doesMore_443
      · rw [ho_150] at e3; obtain ⟨e3, e4⟩ := e3; subst e3; subst e4
        have hd_150 := p_pop_le ho_150 (by omega)
        refine lv_if_eq (tgt := 442) hx hb dX10_doesMore_427 (by decide) (fun h => absurd h (by decide)) (fun _ => ?_)
        refine lv_aload_n hx hb dX10_doesMore_430 rfl (lv_at hl 2 rfl) ?_
        refine lv_iconst (v := 1) hx hb dX10_doesMore_431 (by decide) ?_
        refine m_calli (m_runV (i := .inl 0) (ci := 8) (As := [.int 1]) (rest := []) X (k_X10_push Γ l L x h_150 d_150 1 (by omega)) v_X10_push ml_X10_148 hw hS rfl rfl rfl rfl hl.1 ⟨Nat.le_of_ble_eq_true rfl, Nat.le_of_ble_eq_true rfl⟩ (Nat.le_of_ble_eq_true rfl) ⟨Nat.le_of_ble_eq_true rfl, Nat.le_of_ble_eq_true rfl⟩ dX10_doesMore_432) hS (fun r_154 L1 M1 H locs hp_153 hw hS => ?_)
        obtain ⟨q_154, e1, e2, e3⟩ := hp_153
        rw [e1, e2] at hw; clear e1 e2
        rcases ho_154 : p_push (h_150, d_150) 1 with _ | ⟨h_154, d_154⟩
        · rw [ho_154] at e3; subst e3
          refine lv_if_eq (tgt := 442) hx hb dX10_doesMore_435 (by decide) (fun _ => ?_) (fun h => absurd rfl h)
          refine lv_iconst (v := 0) hx hb dX10_doesMore_442 (by decide) ?_
          exact m_zret (b := false) X hr hlk hw hS (Nat.zero_le _) (Nat.zero_le _) rfl ⟨(q_154.1, q_154.2), rfl, rfl, by clear K706 hb hx hl hS hw hnm hlk hr X; first | exact absurd ht (by omega) | (simp_all [bI, p_more, p_29, p_isL]; done) | (rw [p_more_out (by assumption)]; rfl) | (subst h33; subst ev; have z := p_pops_none (show p_pops (t + 1) (h, d) = none by rw [p_pops, hp]; assumption) u; rw [show t + 1 + u = pm tt by omega] at z; simp [p_more, p_33, h1, hctt, z, bI]; done) | (have e9 : t = pm tt := (by omega); subst h33; subst ev; rw [e9] at hp; simp_all [p_more, p_33, bI]; done) | (simp_all [bI, Nat.pos_iff_ne_zero, p_more, p_16, p_17, p_18, p_19, p_20, p_21, p_23, p_24, p_26, p_27, p_28, p_29, p_30, p_33, p_top, p_drop, p_isRowN]; done)⟩ dX10_doesMore_443
        · rw [ho_154] at e3; obtain ⟨e3, e4⟩ := e3; subst e3; subst e4
          have hd_154 := p_push_le ho_154 (by omega)
          refine lv_if_eq (tgt := 442) hx hb dX10_doesMore_435 (by decide) (fun h => absurd h (by decide)) (fun _ => ?_)
          refine lv_iconst (v := 1) hx hb dX10_doesMore_438 (by decide) ?_
          refine lv_goto (tgt := 443) hx hb dX10_doesMore_439 (by decide) ?_
          exact m_zret (b := true) X hr hlk hw hS (Nat.zero_le _) (Nat.zero_le _) rfl ⟨(h_154, d_154), rfl, rfl, by clear K706 hb hx hl hS hw hnm hlk hr X; first | exact absurd ht (by omega) | (simp_all [bI, p_more, p_29, p_isL]; done) | (rw [p_more_out (by assumption)]; rfl) | (subst h33; subst ev; have z := p_pops_none (show p_pops (t + 1) (h, d) = none by rw [p_pops, hp]; assumption) u; rw [show t + 1 + u = pm tt by omega] at z; simp [p_more, p_33, h1, hctt, z, bI]; done) | (have e9 : t = pm tt := (by omega); subst h33; subst ev; rw [e9] at hp; simp_all [p_more, p_33, bI]; done) | (simp_all [bI, Nat.pos_iff_ne_zero, p_more, p_16, p_17, p_18, p_19, p_20, p_21, p_23, p_24, p_26, p_27, p_28, p_29, p_30, p_33, p_top, p_drop, p_isRowN]; done)⟩ dX10_doesMore_443
    · have c_27e : o = 26 := Int32.toInt_inj.mp c_27v
      refine lv_tableIn (off := 460) (tgt := 467) hx hb dX10_doesMore_7 (by omega) (by omega) (by rw [c_27v]; rfl) (by decide) ?_
      refine lv_aload_n hx hb dX10_doesMore_467 rfl (lv_at hl 2 rfl) ?_
      refine lv_iconst (v := 0) hx hb dX10_doesMore_468 (by decide) ?_
      refine m_calli (m_runV (i := .inl 0) (ci := 8) (As := [.int 0]) (rest := []) X (k_X10_isOneOnTop Γ l L x h d 0 0 rfl (by omega) (by omega)) v_X10_isOneOnTop ml_X10_158 hw hS rfl rfl rfl rfl hl.1 ⟨Nat.le_of_ble_eq_true rfl, Nat.le_of_ble_eq_true rfl⟩ (Nat.le_of_ble_eq_true rfl) ⟨Nat.le_of_ble_eq_true rfl, Nat.le_of_ble_eq_true rfl⟩ dX10_doesMore_469) hS (fun r_158 L1 M1 H locs hp_157 hw hS => ?_)
      obtain ⟨rfl, e1, e2⟩ := hp_157
      rw [e1, e2] at hw; clear e1 e2
      refine lv_if_eq (tgt := 498) hx hb dX10_doesMore_472 (by decide) (fun c_159 => ?_) (fun c_159 => ?_)
      · skip
        have c_159 := bI_f c_159
        refine lv_iconst (v := 0) hx hb dX10_doesMore_498 (by decide) ?_
        exact m_zret (b := false) X hr hlk hw hS (Nat.zero_le _) (Nat.zero_le _) rfl ⟨(h, d), rfl, rfl, by clear K706 hb hx hl hS hw hnm hlk hr X; first | exact absurd ht (by omega) | (simp_all [bI, p_more, p_29, p_isL]; done) | (rw [p_more_out (by assumption)]; rfl) | (subst h33; subst ev; have z := p_pops_none (show p_pops (t + 1) (h, d) = none by rw [p_pops, hp]; assumption) u; rw [show t + 1 + u = pm tt by omega] at z; simp [p_more, p_33, h1, hctt, z, bI]; done) | (have e9 : t = pm tt := (by omega); subst h33; subst ev; rw [e9] at hp; simp_all [p_more, p_33, bI]; done) | (simp_all [bI, Nat.pos_iff_ne_zero, p_more, p_16, p_17, p_18, p_19, p_20, p_21, p_23, p_24, p_26, p_27, p_28, p_29, p_30, p_33, p_top, p_drop, p_isRowN]; done)⟩ dX10_doesMore_499
      · skip
        have c_159 := bI_t c_159
        have po_160 := p_one_lt c_159
        have po_160 : 0 < d := po_160
        refine lv_aload_n hx hb dX10_doesMore_475 rfl (lv_at hl 2 rfl) ?_
        refine lv_aload_n hx hb dX10_doesMore_476 rfl (lv_at hl 2 rfl) ?_
        refine r_get14 X hw dX10_doesMore_477 ?_
        refine lv_bipush (v := 7) hx hb dX10_doesMore_480 (by decide) ?_
        refine lv_aload_n hx hb dX10_doesMore_482 rfl (lv_at hl 2 rfl) ?_
        refine h_get15 X hw dX10_doesMore_483 ?_
        refine lv_iadd hx hb dX10_doesMore_486 ?_
        refine h_ald14 X hw (nadd (a := 7) (b := d) rfl rfl) (by omega) dX10_doesMore_487 ?_
        refine m_calli (m_runV (i := .inl 0) (ci := 8) (As := [.int (h (7 + d))]) (rest := []) X (k_X10_push Γ l L x h d (h (7 + d)) (by omega)) v_X10_push ml_X10_148 hw hS rfl rfl rfl rfl hl.1 ⟨Nat.le_of_ble_eq_true rfl, Nat.le_of_ble_eq_true rfl⟩ (Nat.le_of_ble_eq_true rfl) ⟨Nat.le_of_ble_eq_true rfl, Nat.le_of_ble_eq_true rfl⟩ dX10_doesMore_488) hS (fun r_162 L1 M1 H locs hp_161 hw hS => ?_)
        obtain ⟨q_162, e1, e2, e3⟩ := hp_161
        rw [e1, e2] at hw; clear e1 e2
        rcases ho_162 : p_push (h, d) (h (7 + d)) with _ | ⟨h_162, d_162⟩
        · rw [ho_162] at e3; subst e3
          refine lv_if_eq (tgt := 498) hx hb dX10_doesMore_491 (by decide) (fun _ => ?_) (fun h => absurd rfl h)
          refine lv_iconst (v := 0) hx hb dX10_doesMore_498 (by decide) ?_
          exact m_zret (b := false) X hr hlk hw hS (Nat.zero_le _) (Nat.zero_le _) rfl ⟨(q_162.1, q_162.2), rfl, rfl, by clear K706 hb hx hl hS hw hnm hlk hr X; first | exact absurd ht (by omega) | (simp_all [bI, p_more, p_29, p_isL]; done) | (rw [p_more_out (by assumption)]; rfl) | (subst h33; subst ev; have z := p_pops_none (show p_pops (t + 1) (h, d) = none by rw [p_pops, hp]; assumption) u; rw [show t + 1 + u = pm tt by omega] at z; simp [p_more, p_33, h1, hctt, z, bI]; done) | (have e9 : t = pm tt := (by omega); subst h33; subst ev; rw [e9] at hp; simp_all [p_more, p_33, bI]; done) | (simp_all [bI, Nat.pos_iff_ne_zero, p_more, p_16, p_17, p_18, p_19, p_20, p_21, p_23, p_24, p_26, p_27, p_28, p_29, p_30, p_33, p_top, p_drop, p_isRowN]; done)⟩ dX10_doesMore_499
        · rw [ho_162] at e3; obtain ⟨e3, e4⟩ := e3; subst e3; subst e4
          have hd_162 := p_push_le ho_162 (by omega)
          refine lv_if_eq (tgt := 498) hx hb dX10_doesMore_491 (by decide) (fun h => absurd h (by decide)) (fun _ => ?_)
          refine lv_iconst (v := 1) hx hb dX10_doesMore_494 (by decide) ?_
          refine lv_goto (tgt := 499) hx hb dX10_doesMore_495 (by decide) ?_
          exact m_zret (b := true) X hr hlk hw hS (Nat.zero_le _) (Nat.zero_le _) rfl ⟨(h_162, d_162), rfl, rfl, by clear K706 hb hx hl hS hw hnm hlk hr X; first | exact absurd ht (by omega) | (simp_all [bI, p_more, p_29, p_isL]; done) | (rw [p_more_out (by assumption)]; rfl) | (subst h33; subst ev; have z := p_pops_none (show p_pops (t + 1) (h, d) = none by rw [p_pops, hp]; assumption) u; rw [show t + 1 + u = pm tt by omega] at z; simp [p_more, p_33, h1, hctt, z, bI]; done) | (have e9 : t = pm tt := (by omega); subst h33; subst ev; rw [e9] at hp; simp_all [p_more, p_33, bI]; done) | (simp_all [bI, Nat.pos_iff_ne_zero, p_more, p_16, p_17, p_18, p_19, p_20, p_21, p_23, p_24, p_26, p_27, p_28, p_29, p_30, p_33, p_top, p_drop, p_isRowN]; done)⟩ dX10_doesMore_499
    · have c_27e : o = 27 := Int32.toInt_inj.mp c_27v
      refine lv_tableIn (off := 493) (tgt := 500) hx hb dX10_doesMore_7 (by omega) (by omega) (by rw [c_27v]; rfl) (by decide) ?_
      refine lv_aload_n hx hb dX10_doesMore_500 rfl (lv_at hl 2 rfl) ?_
      refine lv_iconst (v := 0) hx hb dX10_doesMore_501 (by decide) ?_
      refine m_calli (m_runV (i := .inl 0) (ci := 8) (As := [.int 0]) (rest := []) X (k_X10_isOneOnTop Γ l L x h d 0 0 rfl (by omega) (by omega)) v_X10_isOneOnTop ml_X10_158 hw hS rfl rfl rfl rfl hl.1 ⟨Nat.le_of_ble_eq_true rfl, Nat.le_of_ble_eq_true rfl⟩ (Nat.le_of_ble_eq_true rfl) ⟨Nat.le_of_ble_eq_true rfl, Nat.le_of_ble_eq_true rfl⟩ dX10_doesMore_502) hS (fun r_166 L1 M1 H locs hp_165 hw hS => ?_)
      obtain ⟨rfl, e1, e2⟩ := hp_165
      rw [e1, e2] at hw; clear e1 e2
      refine lv_if_ne (tgt := 510) hx hb dX10_doesMore_505 (by decide) (fun c_167 => ?_) (fun c_167 => ?_)
      · skip
        have c_167 := bI_t c_167
        have po_168 := p_one_lt c_167
        have po_168 : 0 < d := po_168
        refine lv_aload_n hx hb dX10_doesMore_510 rfl (lv_at hl 2 rfl) ?_
        refine lv_dup hx hb dX10_doesMore_511 rfl ?_
        refine h_get15 X hw dX10_doesMore_512 ?_
        refine lv_iconst (v := 1) hx hb dX10_doesMore_515 (by decide) ?_
        refine lv_isub hx hb dX10_doesMore_516 ?_
        refine h_put15 X hw hS (nsub (a := d) (b := 1) (by omega) rfl rfl) dX10_doesMore_517 (fun H locs hw hS => ?_)
        refine lv_iconst (v := 1) hx hb dX10_doesMore_520 (by decide) ?_
        exact m_zret (b := true) X hr hlk hw hS (Nat.zero_le _) (Nat.zero_le _) rfl ⟨(h, d - 1), rfl, rfl, by clear K706 hb hx hl hS hw hnm hlk hr X; first | exact absurd ht (by omega) | (simp_all [bI, p_more, p_29, p_isL]; done) | (rw [p_more_out (by assumption)]; rfl) | (subst h33; subst ev; have z := p_pops_none (show p_pops (t + 1) (h, d) = none by rw [p_pops, hp]; assumption) u; rw [show t + 1 + u = pm tt by omega] at z; simp [p_more, p_33, h1, hctt, z, bI]; done) | (have e9 : t = pm tt := (by omega); subst h33; subst ev; rw [e9] at hp; simp_all [p_more, p_33, bI]; done) | (simp_all [bI, Nat.pos_iff_ne_zero, p_more, p_16, p_17, p_18, p_19, p_20, p_21, p_23, p_24, p_26, p_27, p_28, p_29, p_30, p_33, p_top, p_drop, p_isRowN]; done)⟩ dX10_doesMore_521
      · skip
        have c_167 := bI_f c_167
        refine lv_iconst (v := 0) hx hb dX10_doesMore_508 (by decide) ?_
        exact m_zret (b := false) X hr hlk hw hS (Nat.zero_le _) (Nat.zero_le _) rfl ⟨(h, d), rfl, rfl, by clear K706 hb hx hl hS hw hnm hlk hr X; first | exact absurd ht (by omega) | (simp_all [bI, p_more, p_29, p_isL]; done) | (rw [p_more_out (by assumption)]; rfl) | (subst h33; subst ev; have z := p_pops_none (show p_pops (t + 1) (h, d) = none by rw [p_pops, hp]; assumption) u; rw [show t + 1 + u = pm tt by omega] at z; simp [p_more, p_33, h1, hctt, z, bI]; done) | (have e9 : t = pm tt := (by omega); subst h33; subst ev; rw [e9] at hp; simp_all [p_more, p_33, bI]; done) | (simp_all [bI, Nat.pos_iff_ne_zero, p_more, p_16, p_17, p_18, p_19, p_20, p_21, p_23, p_24, p_26, p_27, p_28, p_29, p_30, p_33, p_top, p_drop, p_isRowN]; done)⟩ dX10_doesMore_509
    · have c_27e : o = 28 := Int32.toInt_inj.mp c_27v
      refine lv_tableIn (off := 515) (tgt := 522) hx hb dX10_doesMore_7 (by omega) (by omega) (by rw [c_27v]; rfl) (by decide) ?_
      refine lv_aload_n hx hb dX10_doesMore_522 rfl (lv_at hl 2 rfl) ?_
      refine lv_iconst (v := 0) hx hb dX10_doesMore_523 (by decide) ?_
      refine m_calli (m_runV (i := .inl 0) (ci := 8) (As := [.int 0]) (rest := []) X (k_X10_isOneOnTop Γ l L x h d 0 0 rfl (by omega) (by omega)) v_X10_isOneOnTop ml_X10_158 hw hS rfl rfl rfl rfl hl.1 ⟨Nat.le_of_ble_eq_true rfl, Nat.le_of_ble_eq_true rfl⟩ (Nat.le_of_ble_eq_true rfl) ⟨Nat.le_of_ble_eq_true rfl, Nat.le_of_ble_eq_true rfl⟩ dX10_doesMore_524) hS (fun r_170 L1 M1 H locs hp_169 hw hS => ?_)
      obtain ⟨rfl, e1, e2⟩ := hp_169
      rw [e1, e2] at hw; clear e1 e2
      refine lv_if_eq (tgt := 538) hx hb dX10_doesMore_527 (by decide) (fun c_171 => ?_) (fun c_171 => ?_)
      · skip
        have c_171 := bI_f c_171
        refine lv_iconst (v := 0) hx hb dX10_doesMore_538 (by decide) ?_
        exact m_zret (b := false) X hr hlk hw hS (Nat.zero_le _) (Nat.zero_le _) rfl ⟨(h, d), rfl, rfl, by clear K706 hb hx hl hS hw hnm hlk hr X; first | exact absurd ht (by omega) | (simp_all [bI, p_more, p_29, p_isL]; done) | (rw [p_more_out (by assumption)]; rfl) | (subst h33; subst ev; have z := p_pops_none (show p_pops (t + 1) (h, d) = none by rw [p_pops, hp]; assumption) u; rw [show t + 1 + u = pm tt by omega] at z; simp [p_more, p_33, h1, hctt, z, bI]; done) | (have e9 : t = pm tt := (by omega); subst h33; subst ev; rw [e9] at hp; simp_all [p_more, p_33, bI]; done) | (simp_all [bI, Nat.pos_iff_ne_zero, p_more, p_16, p_17, p_18, p_19, p_20, p_21, p_23, p_24, p_26, p_27, p_28, p_29, p_30, p_33, p_top, p_drop, p_isRowN]; done)⟩ dX10_doesMore_539
      · skip
        have c_171 := bI_t c_171
        have po_172 := p_one_lt c_171
        have po_172 : 0 < d := po_172
        refine lv_aload_n hx hb dX10_doesMore_530 rfl (lv_at hl 2 rfl) ?_
        refine lv_iconst (v := 1) hx hb dX10_doesMore_531 (by decide) ?_
        refine m_calli (m_runV (i := .inl 0) (ci := 8) (As := [.int 1]) (rest := []) X (k_X10_isOneOnTop Γ l L x h d 1 1 rfl (by omega) (by omega)) v_X10_isOneOnTop ml_X10_158 hw hS rfl rfl rfl rfl hl.1 ⟨Nat.le_of_ble_eq_true rfl, Nat.le_of_ble_eq_true rfl⟩ (Nat.le_of_ble_eq_true rfl) ⟨Nat.le_of_ble_eq_true rfl, Nat.le_of_ble_eq_true rfl⟩ dX10_doesMore_532) hS (fun r_174 L1 M1 H locs hp_173 hw hS => ?_)
        obtain ⟨rfl, e1, e2⟩ := hp_173
        rw [e1, e2] at hw; clear e1 e2
        refine lv_if_ne (tgt := 540) hx hb dX10_doesMore_535 (by decide) (fun c_175 => ?_) (fun c_175 => ?_)
        · skip
          have c_175 := bI_t c_175
          have po_176 := p_one_lt c_175
          have po_176 : 1 < d := po_176
          refine lv_aload_n hx hb dX10_doesMore_540 rfl (lv_at hl 2 rfl) ?_
          refine r_get14 X hw dX10_doesMore_541 ?_
          refine lv_bipush (v := 7) hx hb dX10_doesMore_544 (by decide) ?_
          refine lv_aload_n hx hb dX10_doesMore_546 rfl (lv_at hl 2 rfl) ?_
          refine h_get15 X hw dX10_doesMore_547 ?_
          refine lv_iadd hx hb dX10_doesMore_550 ?_
          refine h_ald14 X hw (nadd (a := 7) (b := d) rfl rfl) (by omega) dX10_doesMore_551 ?_
          refine lv_istore (lv' := [(6, .int (h (7 + d))), (7, .int 0), (0, .ref (L (.inl 0))), (1, .int a), (2, .int b), (3, .int o), (4, .long v)]) hx hb dX10_doesMore_552 hl (by decide) rfl (fun ls hl => ?_)
          refine lv_aload_n hx hb dX10_doesMore_554 rfl (lv_at hl 2 rfl) ?_
          refine r_get14 X hw dX10_doesMore_555 ?_
          refine lv_bipush (v := 6) hx hb dX10_doesMore_558 (by decide) ?_
          refine lv_aload_n hx hb dX10_doesMore_560 rfl (lv_at hl 2 rfl) ?_
          refine h_get15 X hw dX10_doesMore_561 ?_
          refine lv_iadd hx hb dX10_doesMore_564 ?_
          refine h_ald14 X hw (nadd (a := 6) (b := d) rfl rfl) (by omega) dX10_doesMore_565 ?_
          refine lv_istore (lv' := [(7, .int (h (6 + d))), (6, .int (h (7 + d))), (0, .ref (L (.inl 0))), (1, .int a), (2, .int b), (3, .int o), (4, .long v)]) hx hb dX10_doesMore_566 hl (by decide) rfl (fun ls hl => ?_)
          refine lv_aload_n hx hb dX10_doesMore_568 rfl (lv_at hl 2 rfl) ?_
          refine r_get14 X hw dX10_doesMore_569 ?_
          refine lv_bipush (v := 7) hx hb dX10_doesMore_572 (by decide) ?_
          refine lv_aload_n hx hb dX10_doesMore_574 rfl (lv_at hl 2 rfl) ?_
          refine h_get15 X hw dX10_doesMore_575 ?_
          refine lv_iadd hx hb dX10_doesMore_578 ?_
          refine lv_iload hx hb dX10_doesMore_579 (lv_at hl 0 rfl) ?_
          refine h_ast14 X hw hS (nadd (a := 7) (b := d) rfl rfl) (by omega) dX10_doesMore_581 (fun H locs hw hS => ?_)
          refine lv_aload_n hx hb dX10_doesMore_582 rfl (lv_at hl 2 rfl) ?_
          refine r_get14 X hw dX10_doesMore_583 ?_
          refine lv_bipush (v := 6) hx hb dX10_doesMore_586 (by decide) ?_
          refine lv_aload_n hx hb dX10_doesMore_588 rfl (lv_at hl 2 rfl) ?_
          refine h_get15 X hw dX10_doesMore_589 ?_
          refine lv_iadd hx hb dX10_doesMore_592 ?_
          refine lv_iload hx hb dX10_doesMore_593 (lv_at hl 1 rfl) ?_
          refine h_ast14 X hw hS (nadd (a := 6) (b := d) rfl rfl) (by omega) dX10_doesMore_595 (fun H locs hw hS => ?_)
          refine lv_iconst (v := 1) hx hb dX10_doesMore_596 (by decide) ?_
          exact m_zret (b := true) X hr hlk hw hS (Nat.zero_le _) (Nat.zero_le _) rfl ⟨(upd (upd h (7 + d) (h (6 + d))) (6 + d) (h (7 + d)), d), rfl, rfl, by clear K706 hb hx hl hS hw hnm hlk hr X; first | exact absurd ht (by omega) | (simp_all [bI, p_more, p_29, p_isL]; done) | (rw [p_more_out (by assumption)]; rfl) | (subst h33; subst ev; have z := p_pops_none (show p_pops (t + 1) (h, d) = none by rw [p_pops, hp]; assumption) u; rw [show t + 1 + u = pm tt by omega] at z; simp [p_more, p_33, h1, hctt, z, bI]; done) | (have e9 : t = pm tt := (by omega); subst h33; subst ev; rw [e9] at hp; simp_all [p_more, p_33, bI]; done) | (simp_all [bI, Nat.pos_iff_ne_zero, p_more, p_16, p_17, p_18, p_19, p_20, p_21, p_23, p_24, p_26, p_27, p_28, p_29, p_30, p_33, p_top, p_drop, p_isRowN]; done)⟩ dX10_doesMore_597
        · skip
          have c_175 := bI_f c_175
          refine lv_iconst (v := 0) hx hb dX10_doesMore_538 (by decide) ?_
          exact m_zret (b := false) X hr hlk hw hS (Nat.zero_le _) (Nat.zero_le _) rfl ⟨(h, d), rfl, rfl, by clear K706 hb hx hl hS hw hnm hlk hr X; first | exact absurd ht (by omega) | (simp_all [bI, p_more, p_29, p_isL]; done) | (rw [p_more_out (by assumption)]; rfl) | (subst h33; subst ev; have z := p_pops_none (show p_pops (t + 1) (h, d) = none by rw [p_pops, hp]; assumption) u; rw [show t + 1 + u = pm tt by omega] at z; simp [p_more, p_33, h1, hctt, z, bI]; done) | (have e9 : t = pm tt := (by omega); subst h33; subst ev; rw [e9] at hp; simp_all [p_more, p_33, bI]; done) | (simp_all [bI, Nat.pos_iff_ne_zero, p_more, p_16, p_17, p_18, p_19, p_20, p_21, p_23, p_24, p_26, p_27, p_28, p_29, p_30, p_33, p_top, p_drop, p_isRowN]; done)⟩ dX10_doesMore_539
    · have c_27e : o = 29 := Int32.toInt_inj.mp c_27v
      refine lv_tableIn (off := 591) (tgt := 598) hx hb dX10_doesMore_7 (by omega) (by omega) (by rw [c_27v]; rfl) (by decide) ?_
      refine lv_lload hx hb dX10_doesMore_598 (lv_at hl 6 rfl) ?_
      refine lv_lconst (v := 0) hx hb dX10_doesMore_600 (by decide) ?_
      refine lv_aload_n hx hb dX10_doesMore_601 rfl (lv_at hl 2 rfl) ?_
      refine r_get2 X hw dX10_doesMore_602 ?_
      refine lv_iload_n hx hb dX10_doesMore_605 rfl (lv_at hl 3 rfl) ?_
      refine h_ald2 X hw ha (by omega) dX10_doesMore_606 ?_
      refine lv_iconst (v := 1) hx hb dX10_doesMore_607 (by decide) ?_
      refine lv_isub hx hb dX10_doesMore_608 ?_
      refine lv_i2l (v := ((x.2.1 2 k) - 1).toInt64) hx hb dX10_doesMore_609 rfl ?_
      refine m_calli (m_runS (As := [.long v, .long 0, .long (((x.2.1 2 k) - 1).toInt64)]) (rest := []) X (k_X10_isIn Γ l L (rM Γ L (sH x (h, d))) v 0 (((x.2.1 2 k) - 1).toInt64)) s_X10_isIn ml_X10_79 hw hS rfl hl.1 ⟨Nat.le_of_ble_eq_true rfl, Nat.le_of_ble_eq_true rfl⟩ (Nat.le_of_ble_eq_true rfl) ⟨Nat.le_of_ble_eq_true rfl, Nat.le_of_ble_eq_true rfl⟩ dX10_doesMore_610) hS (fun r_178 L1 M1 H locs hp_177 hw hS => ?_)
      obtain ⟨rfl, e1, e2⟩ := hp_177
      rw [e1, e2] at hw; clear e1 e2
      exact m_zret (b := (r_isIn v 0 (((x.2.1 2 k) - 1).toInt64))) X hr hlk hw hS (Nat.zero_le _) (Nat.zero_le _) rfl ⟨(h, d), rfl, rfl, by rcases hB : (r_isIn v 0 (((x.2.1 2 k) - 1).toInt64)) with _ | _ <;> (clear K706 hb hx hl hS hw hnm hlk hr X; first | exact absurd ht (by omega) | (simp_all [bI, p_more, p_29, p_isL]; done) | (rw [p_more_out (by assumption)]; rfl) | (subst h33; subst ev; have z := p_pops_none (show p_pops (t + 1) (h, d) = none by rw [p_pops, hp]; assumption) u; rw [show t + 1 + u = pm tt by omega] at z; simp [p_more, p_33, h1, hctt, z, bI]; done) | (have e9 : t = pm tt := (by omega); subst h33; subst ev; rw [e9] at hp; simp_all [p_more, p_33, bI]; done) | (simp_all [bI, Nat.pos_iff_ne_zero, p_more, p_16, p_17, p_18, p_19, p_20, p_21, p_23, p_24, p_26, p_27, p_28, p_29, p_30, p_33, p_top, p_drop, p_isRowN]; done))⟩ dX10_doesMore_613
    · have c_27e : o = 30 := Int32.toInt_inj.mp c_27v
      refine lv_tableIn (off := 607) (tgt := 614) hx hb dX10_doesMore_7 (by omega) (by omega) (by rw [c_27v]; rfl) (by decide) ?_
      refine lv_lload hx hb dX10_doesMore_614 (lv_at hl 6 rfl) ?_
      refine lv_lconst (v := 0) hx hb dX10_doesMore_616 (by decide) ?_
      refine lv_aload_n hx hb dX10_doesMore_617 rfl (lv_at hl 2 rfl) ?_
      refine r_get2 X hw dX10_doesMore_618 ?_
      refine lv_iload_n hx hb dX10_doesMore_621 rfl (lv_at hl 3 rfl) ?_
      refine h_ald2 X hw ha (by omega) dX10_doesMore_622 ?_
      refine lv_iconst (v := 1) hx hb dX10_doesMore_623 (by decide) ?_
      refine lv_isub hx hb dX10_doesMore_624 ?_
      refine lv_i2l (v := ((x.2.1 2 k) - 1).toInt64) hx hb dX10_doesMore_625 rfl ?_
      refine m_calli (m_runS (As := [.long v, .long 0, .long (((x.2.1 2 k) - 1).toInt64)]) (rest := []) X (k_X10_isIn Γ l L (rM Γ L (sH x (h, d))) v 0 (((x.2.1 2 k) - 1).toInt64)) s_X10_isIn ml_X10_79 hw hS rfl hl.1 ⟨Nat.le_of_ble_eq_true rfl, Nat.le_of_ble_eq_true rfl⟩ (Nat.le_of_ble_eq_true rfl) ⟨Nat.le_of_ble_eq_true rfl, Nat.le_of_ble_eq_true rfl⟩ dX10_doesMore_626) hS (fun r_180 L1 M1 H locs hp_179 hw hS => ?_)
      obtain ⟨rfl, e1, e2⟩ := hp_179
      rw [e1, e2] at hw; clear e1 e2
      refine lv_if_eq (tgt := 644) hx hb dX10_doesMore_629 (by decide) (fun c_181 => ?_) (fun c_181 => ?_)
      · skip
        have c_181 := bI_f c_181
        have c_181 : p_isL om v = false := by unfold p_isL; rw [← hom]; exact c_181
        refine lv_iconst (v := 0) hx hb dX10_doesMore_644 (by decide) ?_
        exact m_zret (b := false) X hr hlk hw hS (Nat.zero_le _) (Nat.zero_le _) rfl ⟨(h, d), rfl, rfl, by clear K706 hb hx hl hS hw hnm hlk hr X; first | exact absurd ht (by omega) | (simp_all [bI, p_more, p_29, p_isL]; done) | (rw [p_more_out (by assumption)]; rfl) | (subst h33; subst ev; have z := p_pops_none (show p_pops (t + 1) (h, d) = none by rw [p_pops, hp]; assumption) u; rw [show t + 1 + u = pm tt by omega] at z; simp [p_more, p_33, h1, hctt, z, bI]; done) | (have e9 : t = pm tt := (by omega); subst h33; subst ev; rw [e9] at hp; simp_all [p_more, p_33, bI]; done) | (simp_all [bI, Nat.pos_iff_ne_zero, p_more, p_16, p_17, p_18, p_19, p_20, p_21, p_23, p_24, p_26, p_27, p_28, p_29, p_30, p_33, p_top, p_drop, p_isRowN]; done)⟩ dX10_doesMore_645
      · skip
        have c_181 := bI_t c_181
        have c_181 : p_isL om v = true := by unfold p_isL; rw [← hom]; exact c_181
        refine lv_aload_n hx hb dX10_doesMore_632 rfl (lv_at hl 2 rfl) ?_
        refine lv_iconst (v := 1) hx hb dX10_doesMore_633 (by decide) ?_
        refine m_calli (m_runV (i := .inl 0) (ci := 8) (As := [.int 1]) (rest := []) X (k_X10_pop Γ l L x h d 1 (by omega)) v_X10_pop ml_X10_170 hw hS rfl rfl rfl rfl hl.1 ⟨Nat.le_of_ble_eq_true rfl, Nat.le_of_ble_eq_true rfl⟩ (Nat.le_of_ble_eq_true rfl) ⟨Nat.le_of_ble_eq_true rfl, Nat.le_of_ble_eq_true rfl⟩ dX10_doesMore_634) hS (fun r_183 L1 M1 H locs hp_182 hw hS => ?_)
        obtain ⟨q_183, e1, e2, e3⟩ := hp_182
        rw [e1, e2] at hw; clear e1 e2
        rcases ho_183 : p_pop (h, d) 1 with _ | ⟨h_183, d_183⟩
        · rw [ho_183] at e3; subst e3
          refine lv_if_eq (tgt := 644) hx hb dX10_doesMore_637 (by decide) (fun _ => ?_) (fun h => absurd rfl h)
          refine lv_iconst (v := 0) hx hb dX10_doesMore_644 (by decide) ?_
          exact m_zret (b := false) X hr hlk hw hS (Nat.zero_le _) (Nat.zero_le _) rfl ⟨(q_183.1, q_183.2), rfl, rfl, by clear K706 hb hx hl hS hw hnm hlk hr X; first | exact absurd ht (by omega) | (simp_all [bI, p_more, p_29, p_isL]; done) | (rw [p_more_out (by assumption)]; rfl) | (subst h33; subst ev; have z := p_pops_none (show p_pops (t + 1) (h, d) = none by rw [p_pops, hp]; assumption) u; rw [show t + 1 + u = pm tt by omega] at z; simp [p_more, p_33, h1, hctt, z, bI]; done) | (have e9 : t = pm tt := (by omega); subst h33; subst ev; rw [e9] at hp; simp_all [p_more, p_33, bI]; done) | (simp_all [bI, Nat.pos_iff_ne_zero, p_more, p_16, p_17, p_18, p_19, p_20, p_21, p_23, p_24, p_26, p_27, p_28, p_29, p_30, p_33, p_top, p_drop, p_isRowN]; done)⟩ dX10_doesMore_645
        · rw [ho_183] at e3; obtain ⟨e3, e4⟩ := e3; subst e3; subst e4
          have hd_183 := p_pop_le ho_183 (by omega)
          refine lv_if_eq (tgt := 644) hx hb dX10_doesMore_637 (by decide) (fun h => absurd h (by decide)) (fun _ => ?_)
          refine lv_iconst (v := 1) hx hb dX10_doesMore_640 (by decide) ?_
          refine lv_goto (tgt := 645) hx hb dX10_doesMore_641 (by decide) ?_
          exact m_zret (b := true) X hr hlk hw hS (Nat.zero_le _) (Nat.zero_le _) rfl ⟨(h_183, d_183), rfl, rfl, by clear K706 hb hx hl hS hw hnm hlk hr X; first | exact absurd ht (by omega) | (simp_all [bI, p_more, p_29, p_isL]; done) | (rw [p_more_out (by assumption)]; rfl) | (subst h33; subst ev; have z := p_pops_none (show p_pops (t + 1) (h, d) = none by rw [p_pops, hp]; assumption) u; rw [show t + 1 + u = pm tt by omega] at z; simp [p_more, p_33, h1, hctt, z, bI]; done) | (have e9 : t = pm tt := (by omega); subst h33; subst ev; rw [e9] at hp; simp_all [p_more, p_33, bI]; done) | (simp_all [bI, Nat.pos_iff_ne_zero, p_more, p_16, p_17, p_18, p_19, p_20, p_21, p_23, p_24, p_26, p_27, p_28, p_29, p_30, p_33, p_top, p_drop, p_isRowN]; done)⟩ dX10_doesMore_645
    · have c_27e : o = 31 := Int32.toInt_inj.mp c_27v
      refine lv_tableIn (off := 639) (tgt := 646) hx hb dX10_doesMore_7 (by omega) (by omega) (by rw [c_27v]; rfl) (by decide) ?_
      refine lv_lload hx hb dX10_doesMore_646 (lv_at hl 6 rfl) ?_
      refine lv_lconst (v := 0) hx hb dX10_doesMore_648 (by decide) ?_
      refine lv_aload_n hx hb dX10_doesMore_649 rfl (lv_at hl 2 rfl) ?_
      refine r_get2 X hw dX10_doesMore_650 ?_
      refine lv_iload_n hx hb dX10_doesMore_653 rfl (lv_at hl 3 rfl) ?_
      refine h_ald2 X hw ha (by omega) dX10_doesMore_654 ?_
      refine lv_iconst (v := 1) hx hb dX10_doesMore_655 (by decide) ?_
      refine lv_isub hx hb dX10_doesMore_656 ?_
      refine lv_i2l (v := ((x.2.1 2 k) - 1).toInt64) hx hb dX10_doesMore_657 rfl ?_
      refine m_calli (m_runS (As := [.long v, .long 0, .long (((x.2.1 2 k) - 1).toInt64)]) (rest := []) X (k_X10_isIn Γ l L (rM Γ L (sH x (h, d))) v 0 (((x.2.1 2 k) - 1).toInt64)) s_X10_isIn ml_X10_79 hw hS rfl hl.1 ⟨Nat.le_of_ble_eq_true rfl, Nat.le_of_ble_eq_true rfl⟩ (Nat.le_of_ble_eq_true rfl) ⟨Nat.le_of_ble_eq_true rfl, Nat.le_of_ble_eq_true rfl⟩ dX10_doesMore_658) hS (fun r_187 L1 M1 H locs hp_186 hw hS => ?_)
      obtain ⟨rfl, e1, e2⟩ := hp_186
      rw [e1, e2] at hw; clear e1 e2
      refine lv_if_eq (tgt := 677) hx hb dX10_doesMore_661 (by decide) (fun c_188 => ?_) (fun c_188 => ?_)
      · skip
        have c_188 := bI_f c_188
        have c_188 : p_isL om v = false := by unfold p_isL; rw [← hom]; exact c_188
        refine lv_iconst (v := 0) hx hb dX10_doesMore_677 (by decide) ?_
        exact m_zret (b := false) X hr hlk hw hS (Nat.zero_le _) (Nat.zero_le _) rfl ⟨(h, d), rfl, rfl, by clear K706 hb hx hl hS hw hnm hlk hr X; first | exact absurd ht (by omega) | (simp_all [bI, p_more, p_29, p_isL]; done) | (rw [p_more_out (by assumption)]; rfl) | (subst h33; subst ev; have z := p_pops_none (show p_pops (t + 1) (h, d) = none by rw [p_pops, hp]; assumption) u; rw [show t + 1 + u = pm tt by omega] at z; simp [p_more, p_33, h1, hctt, z, bI]; done) | (have e9 : t = pm tt := (by omega); subst h33; subst ev; rw [e9] at hp; simp_all [p_more, p_33, bI]; done) | (simp_all [bI, Nat.pos_iff_ne_zero, p_more, p_16, p_17, p_18, p_19, p_20, p_21, p_23, p_24, p_26, p_27, p_28, p_29, p_30, p_33, p_top, p_drop, p_isRowN]; done)⟩ dX10_doesMore_678
      · skip
        have c_188 := bI_t c_188
        have c_188 : p_isL om v = true := by unfold p_isL; rw [← hom]; exact c_188
        refine lv_aload_n hx hb dX10_doesMore_664 rfl (lv_at hl 2 rfl) ?_
        refine lv_bipush (v := 10) hx hb dX10_doesMore_665 (by decide) ?_
        refine m_calli (m_runV (i := .inl 0) (ci := 8) (As := [.int 10]) (rest := []) X (k_X10_pop Γ l L x h d 10 (by omega)) v_X10_pop ml_X10_170 hw hS rfl rfl rfl rfl hl.1 ⟨Nat.le_of_ble_eq_true rfl, Nat.le_of_ble_eq_true rfl⟩ (Nat.le_of_ble_eq_true rfl) ⟨Nat.le_of_ble_eq_true rfl, Nat.le_of_ble_eq_true rfl⟩ dX10_doesMore_667) hS (fun r_190 L1 M1 H locs hp_189 hw hS => ?_)
        obtain ⟨q_190, e1, e2, e3⟩ := hp_189
        rw [e1, e2] at hw; clear e1 e2
        rcases ho_190 : p_pop (h, d) 10 with _ | ⟨h_190, d_190⟩
        · rw [ho_190] at e3; subst e3
          refine lv_if_eq (tgt := 677) hx hb dX10_doesMore_670 (by decide) (fun _ => ?_) (fun h => absurd rfl h)
          refine lv_iconst (v := 0) hx hb dX10_doesMore_677 (by decide) ?_
          exact m_zret (b := false) X hr hlk hw hS (Nat.zero_le _) (Nat.zero_le _) rfl ⟨(q_190.1, q_190.2), rfl, rfl, by clear K706 hb hx hl hS hw hnm hlk hr X; first | exact absurd ht (by omega) | (simp_all [bI, p_more, p_29, p_isL]; done) | (rw [p_more_out (by assumption)]; rfl) | (subst h33; subst ev; have z := p_pops_none (show p_pops (t + 1) (h, d) = none by rw [p_pops, hp]; assumption) u; rw [show t + 1 + u = pm tt by omega] at z; simp [p_more, p_33, h1, hctt, z, bI]; done) | (have e9 : t = pm tt := (by omega); subst h33; subst ev; rw [e9] at hp; simp_all [p_more, p_33, bI]; done) | (simp_all [bI, Nat.pos_iff_ne_zero, p_more, p_16, p_17, p_18, p_19, p_20, p_21, p_23, p_24, p_26, p_27, p_28, p_29, p_30, p_33, p_top, p_drop, p_isRowN]; done)⟩ dX10_doesMore_678
        · rw [ho_190] at e3; obtain ⟨e3, e4⟩ := e3; subst e3; subst e4
          have hd_190 := p_pop_le ho_190 (by omega)
          refine lv_if_eq (tgt := 677) hx hb dX10_doesMore_670 (by decide) (fun h => absurd h (by decide)) (fun _ => ?_)
          refine lv_iconst (v := 1) hx hb dX10_doesMore_673 (by decide) ?_
          refine lv_goto (tgt := 678) hx hb dX10_doesMore_674 (by decide) ?_
          exact m_zret (b := true) X hr hlk hw hS (Nat.zero_le _) (Nat.zero_le _) rfl ⟨(h_190, d_190), rfl, rfl, by clear K706 hb hx hl hS hw hnm hlk hr X; first | exact absurd ht (by omega) | (simp_all [bI, p_more, p_29, p_isL]; done) | (rw [p_more_out (by assumption)]; rfl) | (subst h33; subst ev; have z := p_pops_none (show p_pops (t + 1) (h, d) = none by rw [p_pops, hp]; assumption) u; rw [show t + 1 + u = pm tt by omega] at z; simp [p_more, p_33, h1, hctt, z, bI]; done) | (have e9 : t = pm tt := (by omega); subst h33; subst ev; rw [e9] at hp; simp_all [p_more, p_33, bI]; done) | (simp_all [bI, Nat.pos_iff_ne_zero, p_more, p_16, p_17, p_18, p_19, p_20, p_21, p_23, p_24, p_26, p_27, p_28, p_29, p_30, p_33, p_top, p_drop, p_isRowN]; done)⟩ dX10_doesMore_678
    · have c_27e : o = 32 := Int32.toInt_inj.mp c_27v
      refine lv_tableIn (off := 672) (tgt := 679) hx hb dX10_doesMore_7 (by omega) (by omega) (by rw [c_27v]; rfl) (by decide) ?_
      refine lv_aload_n hx hb dX10_doesMore_679 rfl (lv_at hl 2 rfl) ?_
      refine lv_iconst (v := 1) hx hb dX10_doesMore_680 (by decide) ?_
      refine m_calli (m_runV (i := .inl 0) (ci := 8) (As := [.int 1]) (rest := []) X (k_X10_pop Γ l L x h d 1 (by omega)) v_X10_pop ml_X10_170 hw hS rfl rfl rfl rfl hl.1 ⟨Nat.le_of_ble_eq_true rfl, Nat.le_of_ble_eq_true rfl⟩ (Nat.le_of_ble_eq_true rfl) ⟨Nat.le_of_ble_eq_true rfl, Nat.le_of_ble_eq_true rfl⟩ dX10_doesMore_681) hS (fun r_194 L1 M1 H locs hp_193 hw hS => ?_)
      obtain ⟨q_194, e1, e2, e3⟩ := hp_193
      rw [e1, e2] at hw; clear e1 e2
      rcases ho_194 : p_pop (h, d) 1 with _ | ⟨h_194, d_194⟩
      · rw [ho_194] at e3; subst e3
        exact m_zret (b := false) X hr hlk hw hS (Nat.zero_le _) (Nat.zero_le _) rfl ⟨(q_194.1, q_194.2), rfl, rfl, by clear K706 hb hx hl hS hw hnm hlk hr X; first | exact absurd ht (by omega) | (simp_all [bI, p_more, p_29, p_isL]; done) | (rw [p_more_out (by assumption)]; rfl) | (subst h33; subst ev; have z := p_pops_none (show p_pops (t + 1) (h, d) = none by rw [p_pops, hp]; assumption) u; rw [show t + 1 + u = pm tt by omega] at z; simp [p_more, p_33, h1, hctt, z, bI]; done) | (have e9 : t = pm tt := (by omega); subst h33; subst ev; rw [e9] at hp; simp_all [p_more, p_33, bI]; done) | (simp_all [bI, Nat.pos_iff_ne_zero, p_more, p_16, p_17, p_18, p_19, p_20, p_21, p_23, p_24, p_26, p_27, p_28, p_29, p_30, p_33, p_top, p_drop, p_isRowN]; done)⟩ dX10_doesMore_684
      · rw [ho_194] at e3; obtain ⟨e3, e4⟩ := e3; subst e3; subst e4
        have hd_194 := p_pop_le ho_194 (by omega)
        exact m_zret (b := true) X hr hlk hw hS (Nat.zero_le _) (Nat.zero_le _) rfl ⟨(h_194, d_194), rfl, rfl, by clear K706 hb hx hl hS hw hnm hlk hr X; first | exact absurd ht (by omega) | (simp_all [bI, p_more, p_29, p_isL]; done) | (rw [p_more_out (by assumption)]; rfl) | (subst h33; subst ev; have z := p_pops_none (show p_pops (t + 1) (h, d) = none by rw [p_pops, hp]; assumption) u; rw [show t + 1 + u = pm tt by omega] at z; simp [p_more, p_33, h1, hctt, z, bI]; done) | (have e9 : t = pm tt := (by omega); subst h33; subst ev; rw [e9] at hp; simp_all [p_more, p_33, bI]; done) | (simp_all [bI, Nat.pos_iff_ne_zero, p_more, p_16, p_17, p_18, p_19, p_20, p_21, p_23, p_24, p_26, p_27, p_28, p_29, p_30, p_33, p_top, p_drop, p_isRowN]; done)⟩ dX10_doesMore_684
    · have c_27e : o = 33 := Int32.toInt_inj.mp c_27v
      refine lv_tableIn (off := 678) (tgt := 685) hx hb dX10_doesMore_7 (by omega) (by omega) (by rw [c_27v]; rfl) (by decide) ?_
      refine lv_lload hx hb dX10_doesMore_685 (lv_at hl 6 rfl) ?_
      refine lv_lconst (v := 0) hx hb dX10_doesMore_687 (by decide) ?_
      refine lv_iload_n hx hb dX10_doesMore_688 rfl (lv_at hl 3 rfl) ?_
      refine lv_iconst (v := 1) hx hb dX10_doesMore_689 (by decide) ?_
      refine lv_isub hx hb dX10_doesMore_690 ?_
      refine lv_i2l (v := (a - 1).toInt64) hx hb dX10_doesMore_691 rfl ?_
      refine m_calli (m_runS (As := [.long v, .long 0, .long ((a - 1).toInt64)]) (rest := []) X (k_X10_isIn Γ l L (rM Γ L (sH x (h, d))) v 0 ((a - 1).toInt64)) s_X10_isIn ml_X10_79 hw hS rfl hl.1 ⟨Nat.le_of_ble_eq_true rfl, Nat.le_of_ble_eq_true rfl⟩ (Nat.le_of_ble_eq_true rfl) ⟨Nat.le_of_ble_eq_true rfl, Nat.le_of_ble_eq_true rfl⟩ dX10_doesMore_692) hS (fun r_196 L1 M1 H locs hp_195 hw hS => ?_)
      obtain ⟨rfl, e1, e2⟩ := hp_195
      rw [e1, e2] at hw; clear e1 e2
      refine lv_if_ne (tgt := 700) hx hb dX10_doesMore_695 (by decide) (fun c_197 => ?_) (fun c_197 => ?_)
      · skip
        have c_197 := bI_t c_197
        have c_197 : p_isL k v = true := by unfold p_isL; rw [← ha]; exact c_197
        have c_1970 := c_197
        obtain ⟨tt, htt, rfl⟩ := p_isL_nat (by omega) c_1970
        have hctt : (lN tt).toInt32.toNatClampNeg = tt := by rw [lN_i]; exact nI_clamp (by omega)
        have hpm4 := (hpm tt (by omega)).2
        refine lv_iconst (v := 1) hx hb dX10_doesMore_700 (by decide) ?_
        refine lv_istore (lv' := [(8, .int 1), (7, .int 0), (6, .int 0), (0, .ref (L (.inl 0))), (1, .int a), (2, .int b), (3, .int o), (4, .long (lN tt))]) hx hb dX10_doesMore_701 hl (by decide) rfl (fun ls hl => ?_)
        refine lv_iconst (v := 0) hx hb dX10_doesMore_703 (by decide) ?_
        refine lv_istore (lv' := [(9, .int 0), (8, .int 1), (7, .int 0), (6, .int 0), (0, .ref (L (.inl 0))), (1, .int a), (2, .int b), (3, .int o), (4, .long (lN tt))]) hx hb dX10_doesMore_704 hl (by decide) rfl (fun ls hl => ?_)
        exact K706 (pm tt) 0 tt _ _ _ _ _ ls (by omega) rfl (by assumption) rfl (by assumption) (by omega) rfl hw hS hl
      · skip
        have c_197 := bI_f c_197
        have c_197 : p_isL k v = false := by unfold p_isL; rw [← ha]; exact c_197
        refine lv_iconst (v := 0) hx hb dX10_doesMore_698 (by decide) ?_
        exact m_zret (b := false) X hr hlk hw hS (Nat.zero_le _) (Nat.zero_le _) rfl ⟨(h, d), rfl, rfl, by clear K706 hb hx hl hS hw hnm hlk hr X; first | exact absurd ht (by omega) | (simp_all [bI, p_more, p_29, p_isL]; done) | (rw [p_more_out (by assumption)]; rfl) | (subst h33; subst ev; have z := p_pops_none (show p_pops (t + 1) (h, d) = none by rw [p_pops, hp]; assumption) u; rw [show t + 1 + u = pm tt by omega] at z; simp [p_more, p_33, h1, hctt, z, bI]; done) | (have e9 : t = pm tt := (by omega); subst h33; subst ev; rw [e9] at hp; simp_all [p_more, p_33, bI]; done) | (simp_all [bI, Nat.pos_iff_ne_zero, p_more, p_16, p_17, p_18, p_19, p_20, p_21, p_23, p_24, p_26, p_27, p_28, p_29, p_30, p_33, p_top, p_drop, p_isRowN]; done)⟩ dX10_doesMore_699
    · have c_27e : o = 34 := Int32.toInt_inj.mp c_27v
      refine lv_tableIn (off := 672) (tgt := 679) hx hb dX10_doesMore_7 (by omega) (by omega) (by rw [c_27v]; rfl) (by decide) ?_
      refine lv_aload_n hx hb dX10_doesMore_679 rfl (lv_at hl 2 rfl) ?_
      refine lv_iconst (v := 1) hx hb dX10_doesMore_680 (by decide) ?_
      refine m_calli (m_runV (i := .inl 0) (ci := 8) (As := [.int 1]) (rest := []) X (k_X10_pop Γ l L x h d 1 (by omega)) v_X10_pop ml_X10_170 hw hS rfl rfl rfl rfl hl.1 ⟨Nat.le_of_ble_eq_true rfl, Nat.le_of_ble_eq_true rfl⟩ (Nat.le_of_ble_eq_true rfl) ⟨Nat.le_of_ble_eq_true rfl, Nat.le_of_ble_eq_true rfl⟩ dX10_doesMore_681) hS (fun r_199 L1 M1 H locs hp_198 hw hS => ?_)
      obtain ⟨q_199, e1, e2, e3⟩ := hp_198
      rw [e1, e2] at hw; clear e1 e2
      rcases ho_199 : p_pop (h, d) 1 with _ | ⟨h_199, d_199⟩
      · rw [ho_199] at e3; subst e3
        exact m_zret (b := false) X hr hlk hw hS (Nat.zero_le _) (Nat.zero_le _) rfl ⟨(q_199.1, q_199.2), rfl, rfl, by clear K706 hb hx hl hS hw hnm hlk hr X; first | exact absurd ht (by omega) | (simp_all [bI, p_more, p_29, p_isL]; done) | (rw [p_more_out (by assumption)]; rfl) | (subst h33; subst ev; have z := p_pops_none (show p_pops (t + 1) (h, d) = none by rw [p_pops, hp]; assumption) u; rw [show t + 1 + u = pm tt by omega] at z; simp [p_more, p_33, h1, hctt, z, bI]; done) | (have e9 : t = pm tt := (by omega); subst h33; subst ev; rw [e9] at hp; simp_all [p_more, p_33, bI]; done) | (simp_all [bI, Nat.pos_iff_ne_zero, p_more, p_16, p_17, p_18, p_19, p_20, p_21, p_23, p_24, p_26, p_27, p_28, p_29, p_30, p_33, p_top, p_drop, p_isRowN]; done)⟩ dX10_doesMore_684
      · rw [ho_199] at e3; obtain ⟨e3, e4⟩ := e3; subst e3; subst e4
        have hd_199 := p_pop_le ho_199 (by omega)
        exact m_zret (b := true) X hr hlk hw hS (Nat.zero_le _) (Nat.zero_le _) rfl ⟨(h_199, d_199), rfl, rfl, by clear K706 hb hx hl hS hw hnm hlk hr X; first | exact absurd ht (by omega) | (simp_all [bI, p_more, p_29, p_isL]; done) | (rw [p_more_out (by assumption)]; rfl) | (subst h33; subst ev; have z := p_pops_none (show p_pops (t + 1) (h, d) = none by rw [p_pops, hp]; assumption) u; rw [show t + 1 + u = pm tt by omega] at z; simp [p_more, p_33, h1, hctt, z, bI]; done) | (have e9 : t = pm tt := (by omega); subst h33; subst ev; rw [e9] at hp; simp_all [p_more, p_33, bI]; done) | (simp_all [bI, Nat.pos_iff_ne_zero, p_more, p_16, p_17, p_18, p_19, p_20, p_21, p_23, p_24, p_26, p_27, p_28, p_29, p_30, p_33, p_top, p_drop, p_isRowN]; done)⟩ dX10_doesMore_684
