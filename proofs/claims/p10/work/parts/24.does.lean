/-! what an instruction does -/
def Le8 (o : Option PL) : Prop := ∀ z, o = some z → z.2 ≤ 8
theorem le8_none : Le8 none := fun _ h => by cases h
theorem le8_bind {o : Option PL} {f : PL → Option PL} (h1 : Le8 o) (h2 : ∀ z, z.2 ≤ 8 → Le8 (f z)) : Le8 (o.bind f) := by
  intro z h
  cases ho : o with
  | none => rw [ho] at h; cases h
  | some w => rw [ho] at h; exact h2 w (h1 w ho) z h
theorem le8_ite {c : Prop} [Decidable c] {a b : Option PL} (h1 : Le8 a) (h2 : Le8 b) : Le8 (if c then a else b) := by
  by_cases h : c
  · rw [if_pos h]; exact h1
  · rw [if_neg h]; exact h2
theorem le8_some {q : PL} (h : q.2 ≤ 8) : Le8 (some q) := fun _ e => by cases e; exact h
theorem le8_push {q : PL} {k : Int32} (h : q.2 ≤ 8) : Le8 (p_push q k) := fun _ e => p_push_le e h
theorem le8_pop {q : PL} {k : Int32} (h : q.2 ≤ 8) : Le8 (p_pop q k) := fun _ e => p_pop_le e h
theorem le8_pushL {q : PL} (h : q.2 ≤ 8) : Le8 (p_pushL q) := fun _ e => p_pushL_le e h
theorem le8_popL {q : PL} (h : q.2 ≤ 8) : Le8 (p_popL q) := fun _ e => p_popL_le e h
theorem le8_drop {q : PL} (h : q.2 ≤ 8) : (p_drop q).2 ≤ 8 := by show q.2 - 1 ≤ 8; omega
theorem le8_more {k om : Nat} {pm : Nat → Nat} {o : Int32} {v : Int64} {q : PL} (h : q.2 ≤ 8) : Le8 (p_more k om pm o v q) := by
  unfold p_more
  refine le8_ite (le8_ite (le8_push (le8_drop h)) le8_none) ?_
  refine le8_ite (le8_bind (le8_pop h) fun z hz => le8_bind (le8_pop hz) fun w hw => le8_push hw) ?_
  refine le8_ite (le8_bind (le8_pop h) fun z hz => le8_bind (le8_pop hz) fun w hw => le8_pop hw) ?_
  refine le8_ite (le8_bind (le8_pop h) fun z hz => le8_ite (le8_push (le8_drop hz)) le8_none) ?_
  refine le8_ite (le8_bind (le8_pop h) fun y hy => le8_bind (le8_pop hy) fun z hz => le8_ite (le8_some (le8_drop hz)) le8_none) ?_
  refine le8_ite (le8_ite (le8_bind (le8_pop h) fun z hz => le8_push hz) le8_none) ?_
  refine le8_ite (le8_bind (le8_pop h) fun z hz => le8_push hz) ?_
  refine le8_ite (le8_bind (le8_pop h) fun z hz => le8_pop hz) ?_
  refine le8_ite (le8_ite (le8_push h) le8_none) ?_
  refine le8_ite (le8_ite (le8_some (le8_drop h)) le8_none) ?_
  refine le8_ite (le8_ite (le8_some h) le8_none) ?_
  refine le8_ite (le8_ite (le8_some h) le8_none) ?_
  refine le8_ite (le8_ite (le8_pop h) le8_none) ?_
  refine le8_ite (le8_ite (le8_pop h) le8_none) ?_
  refine le8_ite (le8_pop h) ?_
  exact le8_ite (le8_ite (le8_bind (fun z e => p_pops_le h e) fun z hz => le8_push hz) le8_none) le8_none
theorem p_more_le {k om : Nat} {pm : Nat → Nat} {o : Int32} {v : Int64} {q z : PL} (e : p_more k om pm o v q = some z) (h : q.2 ≤ 8) : z.2 ≤ 8 := le8_more h z e
theorem isIn_natL {v lo hi : Int64} {l h : Nat} (hl : lo.toInt = l) (hh : hi.toInt = h) (hb : h < 2 ^ 31) (c : r_isIn v lo hi = true) : ∃ t : Nat, l ≤ t ∧ t ≤ h ∧ v = lN t := by
  have h1 := (r_isIn_iff _ _ _).mp c
  rw [hl, hh] at h1
  refine ⟨v.toInt.toNat, by omega, by omega, Int64.toInt_inj.mp ?_⟩
  rw [lN_toInt (by omega)]
  omega
def p_ix (v : Int64) : Nat := v.toInt32.toNatClampNeg
def p_3 (v : Int64) (q : PL) : Option PL := if r_isIn v 0 7 = true ∧ r_one (q.1 (p_ix v)) = true then p_push q (q.1 (p_ix v)) else none
def p_4 (v : Int64) (q : PL) : Option PL := if r_isIn v 0 7 = true ∧ p_one q 0 = true then some (p_local q.1 (p_ix v) (q.1 (8 + (q.2 - 1))), q.2 - 1) else none
def p_5 (v : Int64) (q : PL) : Option PL := if r_isIn v 0 6 = true ∧ q.1 (p_ix v) = 2 ∧ q.1 (p_ix v + 1) = 3 then p_pushL q else none
def p_6 (v : Int64) (q : PL) : Option PL := if r_isIn v 0 6 = true then (p_popL q).bind (fun z => some (upd (p_local (p_local z.1 (p_ix v) 0) (p_ix v + 1) 3) (p_ix v) 2, z.2)) else none
def p_7 (v : Int64) (q : PL) : Option PL := if r_isIn v 0 4 = true then (p_pop q 1).bind (fun z => (p_pop z 1).bind (fun w => p_push w 1)) else none
def p_8 (v : Int64) (q : PL) : Option PL := if r_isIn v 0 4 = true then (p_popL q).bind (fun z => (p_popL z).bind (fun w => p_pushL w)) else none
def p_9 (q : PL) : Option PL := (p_pop q 1).bind (fun z => p_pushL z)
def p_10 (q : PL) : Option PL := (p_popL q).bind (fun z => p_push z 1)
def p_11 (q : PL) : Option PL := (p_popL q).bind (fun z => (p_popL z).bind (fun w => p_push w 1))
def p_14 (q : PL) : Option PL := (p_pop q 1).bind (fun z => p_push z 5)
def p_15 (v : Int64) (q : PL) : Option PL := if r_isIn v 1 5 = true then (p_pop q 1).bind (fun z => p_push z (20 + v.toInt32)) else none
def p_op (ops : Nat → Int32) (as : Nat → Int64) (k om : Nat) (pm : Nat → Nat) (i o : Int32) (v : Int64) (q : PL) : Option PL := if o = 0 then p_push q 1 else if o = 1 then p_pushL q else if o = 2 then p_push q 4 else if o = 3 then p_3 v q else if o = 4 then p_4 v q else if o = 5 then p_5 v q else if o = 6 then p_6 v q else if o = 7 then p_7 v q else if o = 8 then p_8 v q else if o = 9 then p_9 q else if o = 10 then p_10 q else if o = 11 then p_11 q else if o = 12 then p_new q i v else if o = 13 then p_made ops as om q v else if o = 14 then p_14 q else if o = 15 then p_15 v q else p_more k om pm o v q
theorem p_op_out {ops : Nat → Int32} {as : Nat → Int64} {k om : Nat} {pm : Nat → Nat} {i o : Int32} {v : Int64} {q : PL} (h : o.toInt < 0 ∨ 15 < o.toInt) : p_op ops as k om pm i o v q = p_more k om pm o v q := by
  have n : ∀ c : Int32, 0 ≤ c.toInt → c.toInt ≤ 15 → ¬ o = c := fun c h1 h2 e => by rw [e] at h; omega
  unfold p_op
  simp only [n 0 (by decide) (by decide), n 1 (by decide) (by decide), n 2 (by decide) (by decide), n 3 (by decide) (by decide), n 4 (by decide) (by decide), n 5 (by decide) (by decide), n 6 (by decide) (by decide), n 7 (by decide) (by decide), n 8 (by decide) (by decide), n 9 (by decide) (by decide), n 10 (by decide) (by decide), n 11 (by decide) (by decide), n 12 (by decide) (by decide), n 13 (by decide) (by decide), n 14 (by decide) (by decide), n 15 (by decide) (by decide), if_false]
theorem le8_op {ops : Nat → Int32} {as : Nat → Int64} {k om : Nat} {pm : Nat → Nat} {i o : Int32} {v : Int64} {q : PL} (h : q.2 ≤ 8) : Le8 (p_op ops as k om pm i o v q) := by
  unfold p_op
  refine le8_ite (le8_push h) (le8_ite (le8_pushL h) (le8_ite (le8_push h) (le8_ite (le8_ite (le8_push h) le8_none) ?_)))
  refine le8_ite (le8_ite (le8_some (le8_drop h)) le8_none) (le8_ite (le8_ite (le8_pushL h) le8_none) ?_)
  refine le8_ite (le8_ite (le8_bind (le8_popL h) fun z hz => le8_some hz) le8_none) ?_
  refine le8_ite (le8_ite (le8_bind (le8_pop h) fun z hz => le8_bind (le8_pop hz) fun w hw => le8_push hw) le8_none) ?_
  refine le8_ite (le8_ite (le8_bind (le8_popL h) fun z hz => le8_bind (le8_popL hz) fun w hw => le8_pushL hw) le8_none) ?_
  refine le8_ite (le8_bind (le8_pop h) fun z hz => le8_pushL hz) (le8_ite (le8_bind (le8_popL h) fun z hz => le8_push hz) ?_)
  refine le8_ite (le8_bind (le8_popL h) fun z hz => le8_bind (le8_popL hz) fun w hw => le8_push hw) ?_
  refine le8_ite (fun _ e => p_new_le e h) (le8_ite (fun _ e => p_made_le e h) ?_)
  refine le8_ite (le8_bind (le8_pop h) fun z hz => le8_push hz) (le8_ite (le8_ite (le8_bind (le8_pop h) fun z hz => le8_push hz) le8_none) (le8_more h))
theorem p_op_le {ops : Nat → Int32} {as : Nat → Int64} {k om : Nat} {pm : Nat → Nat} {i o : Int32} {v : Int64} {q z : PL} (e : p_op ops as k om pm i o v q = some z) (h : q.2 ≤ 8) : z.2 ≤ 8 := le8_op h z e
theorem v_X10_does : mVm yX10_does cX10_does 6 (some .boolean) 2 := ⟨cd_X10_does, im_X10_does, se_X10_does, ini_X10, by decide, by decide, by decide +kernel⟩
set_option maxHeartbeats 4000000 in
set_option maxRecDepth 100000 in
theorem k_X10_does (Γ : mG) (l : Launch) (L : mI → Nat) (x : RS) (h : Nat → Int32) (d : Nat) (a : Int32) (b : Int32) (hd : d ≤ 8) (k om ii : Nat) (pm : Nat → Nat) (o : Int32) (v : Int64) (ha : a = nI k) (hk : k < 8) (hbi : b = nI ii) (hii : ii < 40) (hoo : x.2.1 3 (40 * k + ii) = o) (hvv : x.2.2 4 (40 * k + ii) = v) (hom : x.2.1 2 k = nI om) (ho40 : om ≤ 40) (hpm : ∀ t, t < 8 → x.2.1 1 t = nI (pm t) ∧ pm t ≤ 4) : mMet Γ l yX10_does cX10_does 6 (some .boolean) { frames := 6, cells := 0, slots := 0, locals := 136 } [.ref (L (.inl 0)), .int a, .int b] L (rM Γ L (sH x (h, d))) (mQi Γ (mHand Γ L x (p_op (fun j => x.2.1 3 (40 * k + j)) (fun j => x.2.2 4 (40 * k + j)) k om pm b o v (h, d)))) := by
  refine m_start (by decide) (Nat.le_of_ble_eq_true rfl) ?_
  intro p e s m args below meth c A ls X hr hlk hnm hw hS hl
  have hx := X.1.1
  have hb := X.1.2.1
  have hl : lv_has ls 6 [(0, .ref (L (.inl 0))), (1, .int a), (2, .int b)] := hl
  refine lv_aload_n hx hb dX10_does_0 rfl (lv_at hl 0 rfl) ?_
  refine r_get3 X hw dX10_does_1 ?_
  refine lv_bipush (v := 40) hx hb dX10_does_4 (by decide) ?_
  refine lv_iload_n hx hb dX10_does_6 rfl (lv_at hl 1 rfl) ?_
  refine lv_imul hx hb dX10_does_7 ?_
  refine lv_iload_n hx hb dX10_does_8 rfl (lv_at hl 2 rfl) ?_
  refine lv_iadd hx hb dX10_does_9 ?_
  refine h_ald3 X hw (nadd (a := 40 * k) (b := ii) (nmul (a := 40) (b := k) rfl ha) hbi) (by omega) dX10_does_10 ?_
  refine lv_topi (fun z_1 ez_1 => ?_)
  obtain rfl : o = z_1 := (ez_1.trans hoo).symm
  clear ez_1
  refine lv_istore_n (lv' := [(3, .int o), (0, .ref (L (.inl 0))), (1, .int a), (2, .int b)]) hx hb dX10_does_11 rfl hl (by decide) rfl (fun ls hl => ?_)
  refine lv_aload_n hx hb dX10_does_12 rfl (lv_at hl 1 rfl) ?_
  refine r_get4 X hw dX10_does_13 ?_
  refine lv_bipush (v := 40) hx hb dX10_does_16 (by decide) ?_
  refine lv_iload_n hx hb dX10_does_18 rfl (lv_at hl 2 rfl) ?_
  refine lv_imul hx hb dX10_does_19 ?_
  refine lv_iload_n hx hb dX10_does_20 rfl (lv_at hl 3 rfl) ?_
  refine lv_iadd hx hb dX10_does_21 ?_
  refine h_ald4 X hw (nadd (a := 40 * k) (b := ii) (nmul (a := 40) (b := k) rfl ha) hbi) (by omega) dX10_does_22 ?_
  refine lv_topl (fun z_2 ez_2 => ?_)
  obtain rfl : v = z_2 := (ez_2.trans hvv).symm
  clear ez_2
  refine lv_lstore (lv' := [(4, .long v), (3, .int o), (0, .ref (L (.inl 0))), (1, .int a), (2, .int b)]) hx hb dX10_does_23 hl (by decide) rfl (fun ls hl => ?_)
  refine lv_iload_n hx hb dX10_does_25 rfl (lv_at hl 1 rfl) ?_
  by_cases c_3 : o.toInt < 0 ∨ 15 < o.toInt
  · refine lv_tableOut (tgt := 550) hx hb dX10_does_26 c_3 (by decide) ?_
    refine lv_aload_n hx hb dX10_does_550 rfl (lv_at hl 2 rfl) ?_
    refine lv_iload_n hx hb dX10_does_551 rfl (lv_at hl 3 rfl) ?_
    refine lv_iload_n hx hb dX10_does_552 rfl (lv_at hl 4 rfl) ?_
    refine lv_iload_n hx hb dX10_does_553 rfl (lv_at hl 1 rfl) ?_
    refine lv_lload hx hb dX10_does_554 (lv_at hl 0 rfl) ?_
    refine m_calli (m_runV (i := .inl 0) (ci := 8) (As := [.int a, .int b, .int o, .long v]) (rest := []) X (k_X10_doesMore Γ l L x h d a b o v (by omega) k om pm ha hk hom ho40 hpm) v_X10_doesMore ml_X10_180 hw hS rfl rfl rfl rfl hl.1 ⟨Nat.le_of_ble_eq_true rfl, Nat.le_of_ble_eq_true rfl⟩ (Nat.le_of_ble_eq_true rfl) ⟨Nat.le_of_ble_eq_true rfl, Nat.le_of_ble_eq_true rfl⟩ dX10_does_556) hS (fun r_5 L1 M1 H locs hp_4 hw hS => ?_)
    obtain ⟨q_5, e1, e2, e3⟩ := hp_4
    rw [e1, e2] at hw; clear e1 e2
    rcases ho_5 : p_more k om pm o v (h, d) with _ | ⟨h_5, d_5⟩
    · rw [ho_5] at e3; subst e3
      exact m_zret (b := false) X hr hlk hw hS (Nat.zero_le _) (Nat.zero_le _) rfl ⟨(q_5.1, q_5.2), rfl, rfl, by clear hb hx hl hS hw hnm hlk hr X; first | (rw [p_op_out (by assumption)]; simp_all [bI]; done) | (simp_all [bI, Nat.pos_iff_ne_zero, p_op, p_3, p_4, p_5, p_6, p_7, p_8, p_9, p_10, p_11, p_14, p_15]; done)⟩ dX10_does_559
    · rw [ho_5] at e3; obtain ⟨e3, e4⟩ := e3; subst e3; subst e4
      have hd_5 := p_more_le ho_5 (by omega)
      exact m_zret (b := true) X hr hlk hw hS (Nat.zero_le _) (Nat.zero_le _) rfl ⟨(h_5, d_5), rfl, rfl, by clear hb hx hl hS hw hnm hlk hr X; first | (rw [p_op_out (by assumption)]; simp_all [bI]; done) | (simp_all [bI, Nat.pos_iff_ne_zero, p_op, p_3, p_4, p_5, p_6, p_7, p_8, p_9, p_10, p_11, p_14, p_15]; done)⟩ dX10_does_559
  · have c_3b : o.toInt = 0 ∨ o.toInt = 1 ∨ o.toInt = 2 ∨ o.toInt = 3 ∨ o.toInt = 4 ∨ o.toInt = 5 ∨ o.toInt = 6 ∨ o.toInt = 7 ∨ o.toInt = 8 ∨ o.toInt = 9 ∨ o.toInt = 10 ∨ o.toInt = 11 ∨ o.toInt = 12 ∨ o.toInt = 13 ∨ o.toInt = 14 ∨ o.toInt = 15 := by omega
    rcases c_3b with c_3v | c_3v | c_3v | c_3v | c_3v | c_3v | c_3v | c_3v | c_3v | c_3v | c_3v | c_3v | c_3v | c_3v | c_3v | c_3v
    · have c_3e : o = 0 := Int32.toInt_inj.mp c_3v
      refine lv_tableIn (off := 78) (tgt := 104) hx hb dX10_does_26 (by omega) (by omega) (by rw [c_3v]; rfl) (by decide) ?_
      refine lv_aload_n hx hb dX10_does_104 rfl (lv_at hl 2 rfl) ?_
      refine lv_iconst (v := 1) hx hb dX10_does_105 (by decide) ?_
      refine m_calli (m_runV (i := .inl 0) (ci := 8) (As := [.int 1]) (rest := []) X (k_X10_push Γ l L x h d 1 (by omega)) v_X10_push ml_X10_148 hw hS rfl rfl rfl rfl hl.1 ⟨Nat.le_of_ble_eq_true rfl, Nat.le_of_ble_eq_true rfl⟩ (Nat.le_of_ble_eq_true rfl) ⟨Nat.le_of_ble_eq_true rfl, Nat.le_of_ble_eq_true rfl⟩ dX10_does_106) hS (fun r_7 L1 M1 H locs hp_6 hw hS => ?_)
      obtain ⟨q_7, e1, e2, e3⟩ := hp_6
      rw [e1, e2] at hw; clear e1 e2
      rcases ho_7 : p_push (h, d) 1 with _ | ⟨h_7, d_7⟩
      · rw [ho_7] at e3; subst e3
        exact m_zret (b := false) X hr hlk hw hS (Nat.zero_le _) (Nat.zero_le _) rfl ⟨(q_7.1, q_7.2), rfl, rfl, by clear hb hx hl hS hw hnm hlk hr X; first | (rw [p_op_out (by assumption)]; simp_all [bI]; done) | (simp_all [bI, Nat.pos_iff_ne_zero, p_op, p_3, p_4, p_5, p_6, p_7, p_8, p_9, p_10, p_11, p_14, p_15]; done)⟩ dX10_does_109
      · rw [ho_7] at e3; obtain ⟨e3, e4⟩ := e3; subst e3; subst e4
        have hd_7 := p_push_le ho_7 (by omega)
        exact m_zret (b := true) X hr hlk hw hS (Nat.zero_le _) (Nat.zero_le _) rfl ⟨(h_7, d_7), rfl, rfl, by clear hb hx hl hS hw hnm hlk hr X; first | (rw [p_op_out (by assumption)]; simp_all [bI]; done) | (simp_all [bI, Nat.pos_iff_ne_zero, p_op, p_3, p_4, p_5, p_6, p_7, p_8, p_9, p_10, p_11, p_14, p_15]; done)⟩ dX10_does_109
    · have c_3e : o = 1 := Int32.toInt_inj.mp c_3v
      refine lv_tableIn (off := 84) (tgt := 110) hx hb dX10_does_26 (by omega) (by omega) (by rw [c_3v]; rfl) (by decide) ?_
      refine lv_aload_n hx hb dX10_does_110 rfl (lv_at hl 2 rfl) ?_
      refine m_calli (m_runV (i := .inl 0) (ci := 8) (As := []) (rest := []) X (k_X10_pushLong Γ l L x h d  (by omega)) v_X10_pushLong ml_X10_154 hw hS rfl rfl rfl rfl hl.1 ⟨Nat.le_of_ble_eq_true rfl, Nat.le_of_ble_eq_true rfl⟩ (Nat.le_of_ble_eq_true rfl) ⟨Nat.le_of_ble_eq_true rfl, Nat.le_of_ble_eq_true rfl⟩ dX10_does_111) hS (fun r_9 L1 M1 H locs hp_8 hw hS => ?_)
      obtain ⟨q_9, e1, e2, e3⟩ := hp_8
      rw [e1, e2] at hw; clear e1 e2
      rcases ho_9 : p_pushL (h, d) with _ | ⟨h_9, d_9⟩
      · rw [ho_9] at e3; subst e3
        exact m_zret (b := false) X hr hlk hw hS (Nat.zero_le _) (Nat.zero_le _) rfl ⟨(q_9.1, q_9.2), rfl, rfl, by clear hb hx hl hS hw hnm hlk hr X; first | (rw [p_op_out (by assumption)]; simp_all [bI]; done) | (simp_all [bI, Nat.pos_iff_ne_zero, p_op, p_3, p_4, p_5, p_6, p_7, p_8, p_9, p_10, p_11, p_14, p_15]; done)⟩ dX10_does_114
      · rw [ho_9] at e3; obtain ⟨e3, e4⟩ := e3; subst e3; subst e4
        have hd_9 := p_pushL_le ho_9 (by omega)
        exact m_zret (b := true) X hr hlk hw hS (Nat.zero_le _) (Nat.zero_le _) rfl ⟨(h_9, d_9), rfl, rfl, by clear hb hx hl hS hw hnm hlk hr X; first | (rw [p_op_out (by assumption)]; simp_all [bI]; done) | (simp_all [bI, Nat.pos_iff_ne_zero, p_op, p_3, p_4, p_5, p_6, p_7, p_8, p_9, p_10, p_11, p_14, p_15]; done)⟩ dX10_does_114
    · have c_3e : o = 2 := Int32.toInt_inj.mp c_3v
      refine lv_tableIn (off := 89) (tgt := 115) hx hb dX10_does_26 (by omega) (by omega) (by rw [c_3v]; rfl) (by decide) ?_
      refine lv_aload_n hx hb dX10_does_115 rfl (lv_at hl 2 rfl) ?_
      refine lv_iconst (v := 4) hx hb dX10_does_116 (by decide) ?_
      refine m_calli (m_runV (i := .inl 0) (ci := 8) (As := [.int 4]) (rest := []) X (k_X10_push Γ l L x h d 4 (by omega)) v_X10_push ml_X10_148 hw hS rfl rfl rfl rfl hl.1 ⟨Nat.le_of_ble_eq_true rfl, Nat.le_of_ble_eq_true rfl⟩ (Nat.le_of_ble_eq_true rfl) ⟨Nat.le_of_ble_eq_true rfl, Nat.le_of_ble_eq_true rfl⟩ dX10_does_117) hS (fun r_11 L1 M1 H locs hp_10 hw hS => ?_)
      obtain ⟨q_11, e1, e2, e3⟩ := hp_10
      rw [e1, e2] at hw; clear e1 e2
      rcases ho_11 : p_push (h, d) 4 with _ | ⟨h_11, d_11⟩
      · rw [ho_11] at e3; subst e3
        exact m_zret (b := false) X hr hlk hw hS (Nat.zero_le _) (Nat.zero_le _) rfl ⟨(q_11.1, q_11.2), rfl, rfl, by clear hb hx hl hS hw hnm hlk hr X; first | (rw [p_op_out (by assumption)]; simp_all [bI]; done) | (simp_all [bI, Nat.pos_iff_ne_zero, p_op, p_3, p_4, p_5, p_6, p_7, p_8, p_9, p_10, p_11, p_14, p_15]; done)⟩ dX10_does_120
      · rw [ho_11] at e3; obtain ⟨e3, e4⟩ := e3; subst e3; subst e4
        have hd_11 := p_push_le ho_11 (by omega)
        exact m_zret (b := true) X hr hlk hw hS (Nat.zero_le _) (Nat.zero_le _) rfl ⟨(h_11, d_11), rfl, rfl, by clear hb hx hl hS hw hnm hlk hr X; first | (rw [p_op_out (by assumption)]; simp_all [bI]; done) | (simp_all [bI, Nat.pos_iff_ne_zero, p_op, p_3, p_4, p_5, p_6, p_7, p_8, p_9, p_10, p_11, p_14, p_15]; done)⟩ dX10_does_120
    · have c_3e : o = 3 := Int32.toInt_inj.mp c_3v
      refine lv_tableIn (off := 95) (tgt := 121) hx hb dX10_does_26 (by omega) (by omega) (by rw [c_3v]; rfl) (by decide) ?_
      refine lv_lload hx hb dX10_does_121 (lv_at hl 0 rfl) ?_
      refine lv_lconst (v := 0) hx hb dX10_does_123 (by decide) ?_
      refine lv_ldc2 (v := (7)) hx hb X.1.2.2.2.1 (X.1.2.2.2.2 _ kl_X10_139) dX10_does_124 ?_
      refine m_calli (m_runS (As := [.long v, .long 0, .long (7)]) (rest := []) X (k_X10_isIn Γ l L (rM Γ L (sH x (h, d))) v 0 (7)) s_X10_isIn ml_X10_79 hw hS rfl hl.1 ⟨Nat.le_of_ble_eq_true rfl, Nat.le_of_ble_eq_true rfl⟩ (Nat.le_of_ble_eq_true rfl) ⟨Nat.le_of_ble_eq_true rfl, Nat.le_of_ble_eq_true rfl⟩ dX10_does_127) hS (fun r_13 L1 M1 H locs hp_12 hw hS => ?_)
      obtain ⟨rfl, e1, e2⟩ := hp_12
      rw [e1, e2] at hw; clear e1 e2
      refine lv_if_eq (tgt := 166) hx hb dX10_does_130 (by decide) (fun c_14 => ?_) (fun c_14 => ?_)
      · skip
        have c_14 := bI_f c_14
        refine lv_iconst (v := 0) hx hb dX10_does_166 (by decide) ?_
        exact m_zret (b := false) X hr hlk hw hS (Nat.zero_le _) (Nat.zero_le _) rfl ⟨(h, d), rfl, rfl, by clear hb hx hl hS hw hnm hlk hr X; first | (rw [p_op_out (by assumption)]; simp_all [bI]; done) | (simp_all [bI, Nat.pos_iff_ne_zero, p_op, p_3, p_4, p_5, p_6, p_7, p_8, p_9, p_10, p_11, p_14, p_15]; done)⟩ dX10_does_167
      · skip
        have c_14 := bI_t c_14
        have c_140 := c_14
        obtain ⟨tt, htt1, htt2, rfl⟩ := isIn_natL (l := 0) (h := 7) (by decide) (by decide) (by decide) c_140
        have hctt : p_ix (lN tt) = tt := by unfold p_ix; rw [lN_i]; exact nI_clamp (by omega)
        refine lv_aload_n hx hb dX10_does_133 rfl (lv_at hl 2 rfl) ?_
        refine r_get14 X hw dX10_does_134 ?_
        refine lv_lload hx hb dX10_does_137 (lv_at hl 0 rfl) ?_
        refine lv_l2i (v := (lN tt).toInt32) hx hb dX10_does_139 rfl ?_
        refine h_ald14 X hw (lN_i tt) (by omega) dX10_does_140 ?_
        refine m_calli (m_runS (As := [.int (h tt)]) (rest := []) X (k_X10_isOnePlace Γ l L (rM Γ L (sH x (h, d))) (h tt)) s_X10_isOnePlace ml_X10_151 hw hS rfl hl.1 ⟨Nat.le_of_ble_eq_true rfl, Nat.le_of_ble_eq_true rfl⟩ (Nat.le_of_ble_eq_true rfl) ⟨Nat.le_of_ble_eq_true rfl, Nat.le_of_ble_eq_true rfl⟩ dX10_does_141) hS (fun r_16 L1 M1 H locs hp_15 hw hS => ?_)
        obtain ⟨rfl, e1, e2⟩ := hp_15
        rw [e1, e2] at hw; clear e1 e2
        refine lv_if_eq (tgt := 166) hx hb dX10_does_144 (by decide) (fun c_17 => ?_) (fun c_17 => ?_)
        · skip
          have c_17 := bI_f c_17
          refine lv_iconst (v := 0) hx hb dX10_does_166 (by decide) ?_
          exact m_zret (b := false) X hr hlk hw hS (Nat.zero_le _) (Nat.zero_le _) rfl ⟨(h, d), rfl, rfl, by clear hb hx hl hS hw hnm hlk hr X; first | (rw [p_op_out (by assumption)]; simp_all [bI]; done) | (simp_all [bI, Nat.pos_iff_ne_zero, p_op, p_3, p_4, p_5, p_6, p_7, p_8, p_9, p_10, p_11, p_14, p_15]; done)⟩ dX10_does_167
        · skip
          have c_17 := bI_t c_17
          refine lv_aload_n hx hb dX10_does_147 rfl (lv_at hl 2 rfl) ?_
          refine lv_aload_n hx hb dX10_does_148 rfl (lv_at hl 2 rfl) ?_
          refine r_get14 X hw dX10_does_149 ?_
          refine lv_lload hx hb dX10_does_152 (lv_at hl 0 rfl) ?_
          refine lv_l2i (v := (lN tt).toInt32) hx hb dX10_does_154 rfl ?_
          refine h_ald14 X hw (lN_i tt) (by omega) dX10_does_155 ?_
          refine m_calli (m_runV (i := .inl 0) (ci := 8) (As := [.int (h tt)]) (rest := []) X (k_X10_push Γ l L x h d (h tt) (by omega)) v_X10_push ml_X10_148 hw hS rfl rfl rfl rfl hl.1 ⟨Nat.le_of_ble_eq_true rfl, Nat.le_of_ble_eq_true rfl⟩ (Nat.le_of_ble_eq_true rfl) ⟨Nat.le_of_ble_eq_true rfl, Nat.le_of_ble_eq_true rfl⟩ dX10_does_156) hS (fun r_19 L1 M1 H locs hp_18 hw hS => ?_)
          obtain ⟨q_19, e1, e2, e3⟩ := hp_18
          rw [e1, e2] at hw; clear e1 e2
          rcases ho_19 : p_push (h, d) (h tt) with _ | ⟨h_19, d_19⟩
          · rw [ho_19] at e3; subst e3
            refine lv_if_eq (tgt := 166) hx hb dX10_does_159 (by decide) (fun _ => ?_) (fun h => absurd rfl h)
            refine lv_iconst (v := 0) hx hb dX10_does_166 (by decide) ?_
            exact m_zret (b := false) X hr hlk hw hS (Nat.zero_le _) (Nat.zero_le _) rfl ⟨(q_19.1, q_19.2), rfl, rfl, by clear hb hx hl hS hw hnm hlk hr X; first | (rw [p_op_out (by assumption)]; simp_all [bI]; done) | (simp_all [bI, Nat.pos_iff_ne_zero, p_op, p_3, p_4, p_5, p_6, p_7, p_8, p_9, p_10, p_11, p_14, p_15]; done)⟩ dX10_does_167
          · rw [ho_19] at e3; obtain ⟨e3, e4⟩ := e3; subst e3; subst e4
            have hd_19 := p_push_le ho_19 (by omega)
            refine lv_if_eq (tgt := 166) hx hb dX10_does_159 (by decide) (fun h => absurd h (by decide)) (fun _ => ?_)
            refine lv_iconst (v := 1) hx hb dX10_does_162 (by decide) ?_
            refine lv_goto (tgt := 167) hx hb dX10_does_163 (by decide) ?_
            exact m_zret (b := true) X hr hlk hw hS (Nat.zero_le _) (Nat.zero_le _) rfl ⟨(h_19, d_19), rfl, rfl, by clear hb hx hl hS hw hnm hlk hr X; first | (rw [p_op_out (by assumption)]; simp_all [bI]; done) | (simp_all [bI, Nat.pos_iff_ne_zero, p_op, p_3, p_4, p_5, p_6, p_7, p_8, p_9, p_10, p_11, p_14, p_15]; done)⟩ dX10_does_167
    · have c_3e : o = 4 := Int32.toInt_inj.mp c_3v
      refine lv_tableIn (off := 142) (tgt := 168) hx hb dX10_does_26 (by omega) (by omega) (by rw [c_3v]; rfl) (by decide) ?_
      refine lv_lload hx hb dX10_does_168 (lv_at hl 0 rfl) ?_
      refine lv_lconst (v := 0) hx hb dX10_does_170 (by decide) ?_
      refine lv_ldc2 (v := (7)) hx hb X.1.2.2.2.1 (X.1.2.2.2.2 _ kl_X10_139) dX10_does_171 ?_
      refine m_calli (m_runS (As := [.long v, .long 0, .long (7)]) (rest := []) X (k_X10_isIn Γ l L (rM Γ L (sH x (h, d))) v 0 (7)) s_X10_isIn ml_X10_79 hw hS rfl hl.1 ⟨Nat.le_of_ble_eq_true rfl, Nat.le_of_ble_eq_true rfl⟩ (Nat.le_of_ble_eq_true rfl) ⟨Nat.le_of_ble_eq_true rfl, Nat.le_of_ble_eq_true rfl⟩ dX10_does_174) hS (fun r_23 L1 M1 H locs hp_22 hw hS => ?_)
      obtain ⟨rfl, e1, e2⟩ := hp_22
      rw [e1, e2] at hw; clear e1 e2
      refine lv_if_eq (tgt := 188) hx hb dX10_does_177 (by decide) (fun c_24 => ?_) (fun c_24 => ?_)
      · skip
        have c_24 := bI_f c_24
        refine lv_iconst (v := 0) hx hb dX10_does_188 (by decide) ?_
        exact m_zret (b := false) X hr hlk hw hS (Nat.zero_le _) (Nat.zero_le _) rfl ⟨(h, d), rfl, rfl, by clear hb hx hl hS hw hnm hlk hr X; first | (rw [p_op_out (by assumption)]; simp_all [bI]; done) | (simp_all [bI, Nat.pos_iff_ne_zero, p_op, p_3, p_4, p_5, p_6, p_7, p_8, p_9, p_10, p_11, p_14, p_15]; done)⟩ dX10_does_189
      · skip
        have c_24 := bI_t c_24
        have c_240 := c_24
        obtain ⟨tt, htt1, htt2, rfl⟩ := isIn_natL (l := 0) (h := 7) (by decide) (by decide) (by decide) c_240
        have hctt : p_ix (lN tt) = tt := by unfold p_ix; rw [lN_i]; exact nI_clamp (by omega)
        refine lv_aload_n hx hb dX10_does_180 rfl (lv_at hl 2 rfl) ?_
        refine lv_iconst (v := 0) hx hb dX10_does_181 (by decide) ?_
        refine m_calli (m_runV (i := .inl 0) (ci := 8) (As := [.int 0]) (rest := []) X (k_X10_isOneOnTop Γ l L x h d 0 0 rfl (by omega) (by omega)) v_X10_isOneOnTop ml_X10_158 hw hS rfl rfl rfl rfl hl.1 ⟨Nat.le_of_ble_eq_true rfl, Nat.le_of_ble_eq_true rfl⟩ (Nat.le_of_ble_eq_true rfl) ⟨Nat.le_of_ble_eq_true rfl, Nat.le_of_ble_eq_true rfl⟩ dX10_does_182) hS (fun r_26 L1 M1 H locs hp_25 hw hS => ?_)
        obtain ⟨rfl, e1, e2⟩ := hp_25
        rw [e1, e2] at hw; clear e1 e2
        refine lv_if_ne (tgt := 190) hx hb dX10_does_185 (by decide) (fun c_27 => ?_) (fun c_27 => ?_)
        · skip
          have c_27 := bI_t c_27
          have po_28 := p_one_lt c_27
          have po_28 : 0 < d := po_28
          refine lv_aload_n hx hb dX10_does_190 rfl (lv_at hl 2 rfl) ?_
          refine lv_dup hx hb dX10_does_191 rfl ?_
          refine h_get15 X hw dX10_does_192 ?_
          refine lv_iconst (v := 1) hx hb dX10_does_195 (by decide) ?_
          refine lv_isub hx hb dX10_does_196 ?_
          refine h_put15 X hw hS (nsub (a := d) (b := 1) (by omega) rfl rfl) dX10_does_197 (fun H locs hw hS => ?_)
          refine lv_aload_n hx hb dX10_does_200 rfl (lv_at hl 2 rfl) ?_
          refine lv_lload hx hb dX10_does_201 (lv_at hl 0 rfl) ?_
          refine lv_l2i (v := (lN tt).toInt32) hx hb dX10_does_203 rfl ?_
          refine lv_aload_n hx hb dX10_does_204 rfl (lv_at hl 2 rfl) ?_
          refine r_get14 X hw dX10_does_205 ?_
          refine lv_bipush (v := 8) hx hb dX10_does_208 (by decide) ?_
          refine lv_aload_n hx hb dX10_does_210 rfl (lv_at hl 2 rfl) ?_
          refine h_get15 X hw dX10_does_211 ?_
          refine lv_iadd hx hb dX10_does_214 ?_
          refine h_ald14 X hw (nadd (a := 8) (b := d - 1) rfl rfl) (by omega) dX10_does_215 ?_
          refine m_callv (m_runV (i := .inl 0) (ci := 8) (As := [.int ((lN tt).toInt32), .int (h (8 + (d - 1)))]) (rest := []) X (k_X10_local Γ l L x h (d - 1) ((lN tt).toInt32) (h (8 + (d - 1))) tt (lN_i tt) (by omega)) v_X10_local ml_X10_161 hw hS rfl rfl rfl rfl hl.1 ⟨Nat.le_of_ble_eq_true rfl, Nat.le_of_ble_eq_true rfl⟩ (Nat.le_of_ble_eq_true rfl) ⟨Nat.le_of_ble_eq_true rfl, Nat.le_of_ble_eq_true rfl⟩ dX10_does_216) hS (fun L1 M1 H locs hp_29 hw hS => ?_)
          obtain ⟨e1, e2⟩ := hp_29
          rw [e1, e2] at hw; clear e1 e2
          refine lv_iconst (v := 1) hx hb dX10_does_219 (by decide) ?_
          exact m_zret (b := true) X hr hlk hw hS (Nat.zero_le _) (Nat.zero_le _) rfl ⟨(p_local h tt (h (8 + (d - 1))), d - 1), rfl, rfl, by clear hb hx hl hS hw hnm hlk hr X; first | (rw [p_op_out (by assumption)]; simp_all [bI]; done) | (simp_all [bI, Nat.pos_iff_ne_zero, p_op, p_3, p_4, p_5, p_6, p_7, p_8, p_9, p_10, p_11, p_14, p_15]; done)⟩ dX10_does_220
        · skip
          have c_27 := bI_f c_27
          refine lv_iconst (v := 0) hx hb dX10_does_188 (by decide) ?_
          exact m_zret (b := false) X hr hlk hw hS (Nat.zero_le _) (Nat.zero_le _) rfl ⟨(h, d), rfl, rfl, by clear hb hx hl hS hw hnm hlk hr X; first | (rw [p_op_out (by assumption)]; simp_all [bI]; done) | (simp_all [bI, Nat.pos_iff_ne_zero, p_op, p_3, p_4, p_5, p_6, p_7, p_8, p_9, p_10, p_11, p_14, p_15]; done)⟩ dX10_does_189
    · have c_3e : o = 5 := Int32.toInt_inj.mp c_3v
      refine lv_tableIn (off := 195) (tgt := 221) hx hb dX10_does_26 (by omega) (by omega) (by rw [c_3v]; rfl) (by decide) ?_
      refine lv_lload hx hb dX10_does_221 (lv_at hl 0 rfl) ?_
      refine lv_lconst (v := 0) hx hb dX10_does_223 (by decide) ?_
      refine lv_ldc2 (v := (6)) hx hb X.1.2.2.2.1 (X.1.2.2.2.2 _ kl_X10_165) dX10_does_224 ?_
      refine m_calli (m_runS (As := [.long v, .long 0, .long (6)]) (rest := []) X (k_X10_isIn Γ l L (rM Γ L (sH x (h, d))) v 0 (6)) s_X10_isIn ml_X10_79 hw hS rfl hl.1 ⟨Nat.le_of_ble_eq_true rfl, Nat.le_of_ble_eq_true rfl⟩ (Nat.le_of_ble_eq_true rfl) ⟨Nat.le_of_ble_eq_true rfl, Nat.le_of_ble_eq_true rfl⟩ dX10_does_227) hS (fun r_32 L1 M1 H locs hp_31 hw hS => ?_)
      obtain ⟨rfl, e1, e2⟩ := hp_31
      rw [e1, e2] at hw; clear e1 e2
      refine lv_if_eq (tgt := 270) hx hb dX10_does_230 (by decide) (fun c_33 => ?_) (fun c_33 => ?_)
      · skip
        have c_33 := bI_f c_33
        refine lv_iconst (v := 0) hx hb dX10_does_270 (by decide) ?_
        exact m_zret (b := false) X hr hlk hw hS (Nat.zero_le _) (Nat.zero_le _) rfl ⟨(h, d), rfl, rfl, by clear hb hx hl hS hw hnm hlk hr X; first | (rw [p_op_out (by assumption)]; simp_all [bI]; done) | (simp_all [bI, Nat.pos_iff_ne_zero, p_op, p_3, p_4, p_5, p_6, p_7, p_8, p_9, p_10, p_11, p_14, p_15]; done)⟩ dX10_does_271
      · skip
        have c_33 := bI_t c_33
        have c_330 := c_33
        obtain ⟨tt, htt1, htt2, rfl⟩ := isIn_natL (l := 0) (h := 6) (by decide) (by decide) (by decide) c_330
        have hctt : p_ix (lN tt) = tt := by unfold p_ix; rw [lN_i]; exact nI_clamp (by omega)
        refine lv_aload_n hx hb dX10_does_233 rfl (lv_at hl 2 rfl) ?_
        refine r_get14 X hw dX10_does_234 ?_
        refine lv_lload hx hb dX10_does_237 (lv_at hl 0 rfl) ?_
        refine lv_l2i (v := (lN tt).toInt32) hx hb dX10_does_239 rfl ?_
        refine h_ald14 X hw (lN_i tt) (by omega) dX10_does_240 ?_
        refine lv_iconst (v := 2) hx hb dX10_does_241 (by decide) ?_
        refine lv_icmp_ne (tgt := 270) hx hb dX10_does_242 (by decide) (fun c_34 => ?_) (fun c_34 => ?_)
        · skip
          refine lv_iconst (v := 0) hx hb dX10_does_270 (by decide) ?_
          exact m_zret (b := false) X hr hlk hw hS (Nat.zero_le _) (Nat.zero_le _) rfl ⟨(h, d), rfl, rfl, by clear hb hx hl hS hw hnm hlk hr X; first | (rw [p_op_out (by assumption)]; simp_all [bI]; done) | (simp_all [bI, Nat.pos_iff_ne_zero, p_op, p_3, p_4, p_5, p_6, p_7, p_8, p_9, p_10, p_11, p_14, p_15]; done)⟩ dX10_does_271
        · skip
          refine lv_aload_n hx hb dX10_does_245 rfl (lv_at hl 2 rfl) ?_
          refine r_get14 X hw dX10_does_246 ?_
          refine lv_lload hx hb dX10_does_249 (lv_at hl 0 rfl) ?_
          refine lv_l2i (v := (lN tt).toInt32) hx hb dX10_does_251 rfl ?_
          refine lv_iconst (v := 1) hx hb dX10_does_252 (by decide) ?_
          refine lv_iadd hx hb dX10_does_253 ?_
          refine h_ald14 X hw (nadd (a := tt) (b := 1) (lN_i tt) rfl) (by omega) dX10_does_254 ?_
          refine lv_iconst (v := 3) hx hb dX10_does_255 (by decide) ?_
          refine lv_icmp_ne (tgt := 270) hx hb dX10_does_256 (by decide) (fun c_35 => ?_) (fun c_35 => ?_)
          · skip
            refine lv_iconst (v := 0) hx hb dX10_does_270 (by decide) ?_
            exact m_zret (b := false) X hr hlk hw hS (Nat.zero_le _) (Nat.zero_le _) rfl ⟨(h, d), rfl, rfl, by clear hb hx hl hS hw hnm hlk hr X; first | (rw [p_op_out (by assumption)]; simp_all [bI]; done) | (simp_all [bI, Nat.pos_iff_ne_zero, p_op, p_3, p_4, p_5, p_6, p_7, p_8, p_9, p_10, p_11, p_14, p_15]; done)⟩ dX10_does_271
          · skip
            refine lv_aload_n hx hb dX10_does_259 rfl (lv_at hl 2 rfl) ?_
            refine m_calli (m_runV (i := .inl 0) (ci := 8) (As := []) (rest := []) X (k_X10_pushLong Γ l L x h d  (by omega)) v_X10_pushLong ml_X10_154 hw hS rfl rfl rfl rfl hl.1 ⟨Nat.le_of_ble_eq_true rfl, Nat.le_of_ble_eq_true rfl⟩ (Nat.le_of_ble_eq_true rfl) ⟨Nat.le_of_ble_eq_true rfl, Nat.le_of_ble_eq_true rfl⟩ dX10_does_260) hS (fun r_37 L1 M1 H locs hp_36 hw hS => ?_)
            obtain ⟨q_37, e1, e2, e3⟩ := hp_36
            rw [e1, e2] at hw; clear e1 e2
            rcases ho_37 : p_pushL (h, d) with _ | ⟨h_37, d_37⟩
            · rw [ho_37] at e3; subst e3
              refine lv_if_eq (tgt := 270) hx hb dX10_does_263 (by decide) (fun _ => ?_) (fun h => absurd rfl h)
              refine lv_iconst (v := 0) hx hb dX10_does_270 (by decide) ?_
              exact m_zret (b := false) X hr hlk hw hS (Nat.zero_le _) (Nat.zero_le _) rfl ⟨(q_37.1, q_37.2), rfl, rfl, by clear hb hx hl hS hw hnm hlk hr X; first | (rw [p_op_out (by assumption)]; simp_all [bI]; done) | (simp_all [bI, Nat.pos_iff_ne_zero, p_op, p_3, p_4, p_5, p_6, p_7, p_8, p_9, p_10, p_11, p_14, p_15]; done)⟩ dX10_does_271
            · rw [ho_37] at e3; obtain ⟨e3, e4⟩ := e3; subst e3; subst e4
              have hd_37 := p_pushL_le ho_37 (by omega)
              refine lv_if_eq (tgt := 270) hx hb dX10_does_263 (by decide) (fun h => absurd h (by decide)) (fun _ => ?_)
              refine lv_iconst (v := 1) hx hb dX10_does_266 (by decide) ?_
              refine lv_goto (tgt := 271) hx hb dX10_does_267 (by decide) ?_
              exact m_zret (b := true) X hr hlk hw hS (Nat.zero_le _) (Nat.zero_le _) rfl ⟨(h_37, d_37), rfl, rfl, by clear hb hx hl hS hw hnm hlk hr X; first | (rw [p_op_out (by assumption)]; simp_all [bI]; done) | (simp_all [bI, Nat.pos_iff_ne_zero, p_op, p_3, p_4, p_5, p_6, p_7, p_8, p_9, p_10, p_11, p_14, p_15]; done)⟩ dX10_does_271
    · have c_3e : o = 6 := Int32.toInt_inj.mp c_3v
      refine lv_tableIn (off := 246) (tgt := 272) hx hb dX10_does_26 (by omega) (by omega) (by rw [c_3v]; rfl) (by decide) ?_
      refine lv_lload hx hb dX10_does_272 (lv_at hl 0 rfl) ?_
      refine lv_lconst (v := 0) hx hb dX10_does_274 (by decide) ?_
      refine lv_ldc2 (v := (6)) hx hb X.1.2.2.2.1 (X.1.2.2.2.2 _ kl_X10_165) dX10_does_275 ?_
      refine m_calli (m_runS (As := [.long v, .long 0, .long (6)]) (rest := []) X (k_X10_isIn Γ l L (rM Γ L (sH x (h, d))) v 0 (6)) s_X10_isIn ml_X10_79 hw hS rfl hl.1 ⟨Nat.le_of_ble_eq_true rfl, Nat.le_of_ble_eq_true rfl⟩ (Nat.le_of_ble_eq_true rfl) ⟨Nat.le_of_ble_eq_true rfl, Nat.le_of_ble_eq_true rfl⟩ dX10_does_278) hS (fun r_41 L1 M1 H locs hp_40 hw hS => ?_)
      obtain ⟨rfl, e1, e2⟩ := hp_40
      rw [e1, e2] at hw; clear e1 e2
      refine lv_if_eq (tgt := 291) hx hb dX10_does_281 (by decide) (fun c_42 => ?_) (fun c_42 => ?_)
      · skip
        have c_42 := bI_f c_42
        refine lv_iconst (v := 0) hx hb dX10_does_291 (by decide) ?_
        exact m_zret (b := false) X hr hlk hw hS (Nat.zero_le _) (Nat.zero_le _) rfl ⟨(h, d), rfl, rfl, by clear hb hx hl hS hw hnm hlk hr X; first | (rw [p_op_out (by assumption)]; simp_all [bI]; done) | (simp_all [bI, Nat.pos_iff_ne_zero, p_op, p_3, p_4, p_5, p_6, p_7, p_8, p_9, p_10, p_11, p_14, p_15]; done)⟩ dX10_does_292
      · skip
        have c_42 := bI_t c_42
        have c_420 := c_42
        obtain ⟨tt, htt1, htt2, rfl⟩ := isIn_natL (l := 0) (h := 6) (by decide) (by decide) (by decide) c_420
        have hctt : p_ix (lN tt) = tt := by unfold p_ix; rw [lN_i]; exact nI_clamp (by omega)
        refine lv_aload_n hx hb dX10_does_284 rfl (lv_at hl 2 rfl) ?_
        refine m_calli (m_runV (i := .inl 0) (ci := 8) (As := []) (rest := []) X (k_X10_popLong Γ l L x h d  (by omega)) v_X10_popLong ml_X10_167 hw hS rfl rfl rfl rfl hl.1 ⟨Nat.le_of_ble_eq_true rfl, Nat.le_of_ble_eq_true rfl⟩ (Nat.le_of_ble_eq_true rfl) ⟨Nat.le_of_ble_eq_true rfl, Nat.le_of_ble_eq_true rfl⟩ dX10_does_285) hS (fun r_44 L1 M1 H locs hp_43 hw hS => ?_)
        obtain ⟨q_44, e1, e2, e3⟩ := hp_43
        rw [e1, e2] at hw; clear e1 e2
        rcases ho_44 : p_popL (h, d) with _ | ⟨h_44, d_44⟩
        · rw [ho_44] at e3; subst e3
          refine lv_if_ne (tgt := 293) hx hb dX10_does_288 (by decide) (fun h => absurd rfl h) (fun _ => ?_)
          refine lv_iconst (v := 0) hx hb dX10_does_291 (by decide) ?_
          exact m_zret (b := false) X hr hlk hw hS (Nat.zero_le _) (Nat.zero_le _) rfl ⟨(q_44.1, q_44.2), rfl, rfl, by clear hb hx hl hS hw hnm hlk hr X; first | (rw [p_op_out (by assumption)]; simp_all [bI]; done) | (simp_all [bI, Nat.pos_iff_ne_zero, p_op, p_3, p_4, p_5, p_6, p_7, p_8, p_9, p_10, p_11, p_14, p_15]; done)⟩ dX10_does_292
        · rw [ho_44] at e3; obtain ⟨e3, e4⟩ := e3; subst e3; subst e4
          have hd_44 := p_popL_le ho_44 (by omega)
          refine lv_if_ne (tgt := 293) hx hb dX10_does_288 (by decide) (fun _ => ?_) (fun h => absurd h (by decide))
          refine lv_aload_n hx hb dX10_does_293 rfl (lv_at hl 2 rfl) ?_
          refine lv_lload hx hb dX10_does_294 (lv_at hl 0 rfl) ?_
          refine lv_l2i (v := (lN tt).toInt32) hx hb dX10_does_296 rfl ?_
          refine lv_iconst (v := 0) hx hb dX10_does_297 (by decide) ?_
          refine m_callv (m_runV (i := .inl 0) (ci := 8) (As := [.int ((lN tt).toInt32), .int 0]) (rest := []) X (k_X10_local Γ l L x h_44 d_44 ((lN tt).toInt32) 0 tt (lN_i tt) (by omega)) v_X10_local ml_X10_161 hw hS rfl rfl rfl rfl hl.1 ⟨Nat.le_of_ble_eq_true rfl, Nat.le_of_ble_eq_true rfl⟩ (Nat.le_of_ble_eq_true rfl) ⟨Nat.le_of_ble_eq_true rfl, Nat.le_of_ble_eq_true rfl⟩ dX10_does_298) hS (fun L1 M1 H locs hp_47 hw hS => ?_)
          obtain ⟨e1, e2⟩ := hp_47
          rw [e1, e2] at hw; clear e1 e2
          refine lv_aload_n hx hb dX10_does_301 rfl (lv_at hl 2 rfl) ?_
          refine lv_lload hx hb dX10_does_302 (lv_at hl 0 rfl) ?_
          refine lv_l2i (v := (lN tt).toInt32) hx hb dX10_does_304 rfl ?_
          refine lv_iconst (v := 1) hx hb dX10_does_305 (by decide) ?_
          refine lv_iadd hx hb dX10_does_306 ?_
          refine lv_iconst (v := 3) hx hb dX10_does_307 (by decide) ?_
          refine m_callv (m_runV (i := .inl 0) (ci := 8) (As := [.int (((lN tt).toInt32) + 1), .int 3]) (rest := []) X (k_X10_local Γ l L x (p_local h_44 tt 0) d_44 (((lN tt).toInt32) + 1) 3 (tt + 1) (nadd (a := tt) (b := 1) (lN_i tt) rfl) (by omega)) v_X10_local ml_X10_161 hw hS rfl rfl rfl rfl hl.1 ⟨Nat.le_of_ble_eq_true rfl, Nat.le_of_ble_eq_true rfl⟩ (Nat.le_of_ble_eq_true rfl) ⟨Nat.le_of_ble_eq_true rfl, Nat.le_of_ble_eq_true rfl⟩ dX10_does_308) hS (fun L1 M1 H locs hp_49 hw hS => ?_)
          obtain ⟨e1, e2⟩ := hp_49
          rw [e1, e2] at hw; clear e1 e2
          refine lv_aload_n hx hb dX10_does_311 rfl (lv_at hl 2 rfl) ?_
          refine r_get14 X hw dX10_does_312 ?_
          refine lv_lload hx hb dX10_does_315 (lv_at hl 0 rfl) ?_
          refine lv_l2i (v := (lN tt).toInt32) hx hb dX10_does_317 rfl ?_
          refine lv_iconst (v := 2) hx hb dX10_does_318 (by decide) ?_
          refine h_ast14 X hw hS (lN_i tt) (by omega) dX10_does_319 (fun H locs hw hS => ?_)
          refine lv_iconst (v := 1) hx hb dX10_does_320 (by decide) ?_
          exact m_zret (b := true) X hr hlk hw hS (Nat.zero_le _) (Nat.zero_le _) rfl ⟨(upd (p_local (p_local h_44 tt 0) (tt + 1) 3) tt 2, d_44), rfl, rfl, by clear hb hx hl hS hw hnm hlk hr X; first | (rw [p_op_out (by assumption)]; simp_all [bI]; done) | (simp_all [bI, Nat.pos_iff_ne_zero, p_op, p_3, p_4, p_5, p_6, p_7, p_8, p_9, p_10, p_11, p_14, p_15]; done)⟩ dX10_does_321
    · have c_3e : o = 7 := Int32.toInt_inj.mp c_3v
      refine lv_tableIn (off := 296) (tgt := 322) hx hb dX10_does_26 (by omega) (by omega) (by rw [c_3v]; rfl) (by decide) ?_
      refine lv_lload hx hb dX10_does_322 (lv_at hl 0 rfl) ?_
      refine lv_lconst (v := 0) hx hb dX10_does_324 (by decide) ?_
      refine lv_ldc2 (v := (4)) hx hb X.1.2.2.2.1 (X.1.2.2.2.2 _ kl_X10_128) dX10_does_325 ?_
      refine m_calli (m_runS (As := [.long v, .long 0, .long (4)]) (rest := []) X (k_X10_isIn Γ l L (rM Γ L (sH x (h, d))) v 0 (4)) s_X10_isIn ml_X10_79 hw hS rfl hl.1 ⟨Nat.le_of_ble_eq_true rfl, Nat.le_of_ble_eq_true rfl⟩ (Nat.le_of_ble_eq_true rfl) ⟨Nat.le_of_ble_eq_true rfl, Nat.le_of_ble_eq_true rfl⟩ dX10_does_328) hS (fun r_52 L1 M1 H locs hp_51 hw hS => ?_)
      obtain ⟨rfl, e1, e2⟩ := hp_51
      rw [e1, e2] at hw; clear e1 e2
      refine lv_if_eq (tgt := 362) hx hb dX10_does_331 (by decide) (fun c_53 => ?_) (fun c_53 => ?_)
      · skip
        have c_53 := bI_f c_53
        refine lv_iconst (v := 0) hx hb dX10_does_362 (by decide) ?_
        exact m_zret (b := false) X hr hlk hw hS (Nat.zero_le _) (Nat.zero_le _) rfl ⟨(h, d), rfl, rfl, by clear hb hx hl hS hw hnm hlk hr X; first | (rw [p_op_out (by assumption)]; simp_all [bI]; done) | (simp_all [bI, Nat.pos_iff_ne_zero, p_op, p_3, p_4, p_5, p_6, p_7, p_8, p_9, p_10, p_11, p_14, p_15]; done)⟩ dX10_does_363
      · skip
        have c_53 := bI_t c_53
        have c_530 := c_53
        obtain ⟨tt, htt1, htt2, rfl⟩ := isIn_natL (l := 0) (h := 4) (by decide) (by decide) (by decide) c_530
        have hctt : p_ix (lN tt) = tt := by unfold p_ix; rw [lN_i]; exact nI_clamp (by omega)
        refine lv_aload_n hx hb dX10_does_334 rfl (lv_at hl 2 rfl) ?_
        refine lv_iconst (v := 1) hx hb dX10_does_335 (by decide) ?_
        refine m_calli (m_runV (i := .inl 0) (ci := 8) (As := [.int 1]) (rest := []) X (k_X10_pop Γ l L x h d 1 (by omega)) v_X10_pop ml_X10_170 hw hS rfl rfl rfl rfl hl.1 ⟨Nat.le_of_ble_eq_true rfl, Nat.le_of_ble_eq_true rfl⟩ (Nat.le_of_ble_eq_true rfl) ⟨Nat.le_of_ble_eq_true rfl, Nat.le_of_ble_eq_true rfl⟩ dX10_does_336) hS (fun r_55 L1 M1 H locs hp_54 hw hS => ?_)
        obtain ⟨q_55, e1, e2, e3⟩ := hp_54
        rw [e1, e2] at hw; clear e1 e2
        rcases ho_55 : p_pop (h, d) 1 with _ | ⟨h_55, d_55⟩
        · rw [ho_55] at e3; subst e3
          refine lv_if_eq (tgt := 362) hx hb dX10_does_339 (by decide) (fun _ => ?_) (fun h => absurd rfl h)
          refine lv_iconst (v := 0) hx hb dX10_does_362 (by decide) ?_
          exact m_zret (b := false) X hr hlk hw hS (Nat.zero_le _) (Nat.zero_le _) rfl ⟨(q_55.1, q_55.2), rfl, rfl, by clear hb hx hl hS hw hnm hlk hr X; first | (rw [p_op_out (by assumption)]; simp_all [bI]; done) | (simp_all [bI, Nat.pos_iff_ne_zero, p_op, p_3, p_4, p_5, p_6, p_7, p_8, p_9, p_10, p_11, p_14, p_15]; done)⟩ dX10_does_363
        · rw [ho_55] at e3; obtain ⟨e3, e4⟩ := e3; subst e3; subst e4
          have hd_55 := p_pop_le ho_55 (by omega)
          refine lv_if_eq (tgt := 362) hx hb dX10_does_339 (by decide) (fun h => absurd h (by decide)) (fun _ => ?_)
          refine lv_aload_n hx hb dX10_does_342 rfl (lv_at hl 2 rfl) ?_
          refine lv_iconst (v := 1) hx hb dX10_does_343 (by decide) ?_
          refine m_calli (m_runV (i := .inl 0) (ci := 8) (As := [.int 1]) (rest := []) X (k_X10_pop Γ l L x h_55 d_55 1 (by omega)) v_X10_pop ml_X10_170 hw hS rfl rfl rfl rfl hl.1 ⟨Nat.le_of_ble_eq_true rfl, Nat.le_of_ble_eq_true rfl⟩ (Nat.le_of_ble_eq_true rfl) ⟨Nat.le_of_ble_eq_true rfl, Nat.le_of_ble_eq_true rfl⟩ dX10_does_344) hS (fun r_59 L1 M1 H locs hp_58 hw hS => ?_)
          obtain ⟨q_59, e1, e2, e3⟩ := hp_58
          rw [e1, e2] at hw; clear e1 e2
          rcases ho_59 : p_pop (h_55, d_55) 1 with _ | ⟨h_59, d_59⟩
          · rw [ho_59] at e3; subst e3
            refine lv_if_eq (tgt := 362) hx hb dX10_does_347 (by decide) (fun _ => ?_) (fun h => absurd rfl h)
            refine lv_iconst (v := 0) hx hb dX10_does_362 (by decide) ?_
            exact m_zret (b := false) X hr hlk hw hS (Nat.zero_le _) (Nat.zero_le _) rfl ⟨(q_59.1, q_59.2), rfl, rfl, by clear hb hx hl hS hw hnm hlk hr X; first | (rw [p_op_out (by assumption)]; simp_all [bI]; done) | (simp_all [bI, Nat.pos_iff_ne_zero, p_op, p_3, p_4, p_5, p_6, p_7, p_8, p_9, p_10, p_11, p_14, p_15]; done)⟩ dX10_does_363
          · rw [ho_59] at e3; obtain ⟨e3, e4⟩ := e3; subst e3; subst e4
            have hd_59 := p_pop_le ho_59 (by omega)
            refine lv_if_eq (tgt := 362) hx hb dX10_does_347 (by decide) (fun h => absurd h (by decide)) (fun _ => ?_)
            refine lv_aload_n hx hb dX10_does_350 rfl (lv_at hl 2 rfl) ?_
            refine lv_iconst (v := 1) hx hb dX10_does_351 (by decide) ?_
            refine m_calli (m_runV (i := .inl 0) (ci := 8) (As := [.int 1]) (rest := []) X (k_X10_push Γ l L x h_59 d_59 1 (by omega)) v_X10_push ml_X10_148 hw hS rfl rfl rfl rfl hl.1 ⟨Nat.le_of_ble_eq_true rfl, Nat.le_of_ble_eq_true rfl⟩ (Nat.le_of_ble_eq_true rfl) ⟨Nat.le_of_ble_eq_true rfl, Nat.le_of_ble_eq_true rfl⟩ dX10_does_352) hS (fun r_63 L1 M1 H locs hp_62 hw hS => ?_)
            obtain ⟨q_63, e1, e2, e3⟩ := hp_62
            rw [e1, e2] at hw; clear e1 e2
            rcases ho_63 : p_push (h_59, d_59) 1 with _ | ⟨h_63, d_63⟩
            · rw [ho_63] at e3; subst e3
              refine lv_if_eq (tgt := 362) hx hb dX10_does_355 (by decide) (fun _ => ?_) (fun h => absurd rfl h)
              refine lv_iconst (v := 0) hx hb dX10_does_362 (by decide) ?_
              exact m_zret (b := false) X hr hlk hw hS (Nat.zero_le _) (Nat.zero_le _) rfl ⟨(q_63.1, q_63.2), rfl, rfl, by clear hb hx hl hS hw hnm hlk hr X; first | (rw [p_op_out (by assumption)]; simp_all [bI]; done) | (simp_all [bI, Nat.pos_iff_ne_zero, p_op, p_3, p_4, p_5, p_6, p_7, p_8, p_9, p_10, p_11, p_14, p_15]; done)⟩ dX10_does_363
            · rw [ho_63] at e3; obtain ⟨e3, e4⟩ := e3; subst e3; subst e4
              have hd_63 := p_push_le ho_63 (by omega)
              refine lv_if_eq (tgt := 362) hx hb dX10_does_355 (by decide) (fun h => absurd h (by decide)) (fun _ => ?_)
              refine lv_iconst (v := 1) hx hb dX10_does_358 (by decide) ?_
              refine lv_goto (tgt := 363) hx hb dX10_does_359 (by decide) ?_
              exact m_zret (b := true) X hr hlk hw hS (Nat.zero_le _) (Nat.zero_le _) rfl ⟨(h_63, d_63), rfl, rfl, by clear hb hx hl hS hw hnm hlk hr X; first | (rw [p_op_out (by assumption)]; simp_all [bI]; done) | (simp_all [bI, Nat.pos_iff_ne_zero, p_op, p_3, p_4, p_5, p_6, p_7, p_8, p_9, p_10, p_11, p_14, p_15]; done)⟩ dX10_does_363
    · have c_3e : o = 8 := Int32.toInt_inj.mp c_3v
      refine lv_tableIn (off := 338) (tgt := 364) hx hb dX10_does_26 (by omega) (by omega) (by rw [c_3v]; rfl) (by decide) ?_
      refine lv_lload hx hb dX10_does_364 (lv_at hl 0 rfl) ?_
      refine lv_lconst (v := 0) hx hb dX10_does_366 (by decide) ?_
      refine lv_ldc2 (v := (4)) hx hb X.1.2.2.2.1 (X.1.2.2.2.2 _ kl_X10_128) dX10_does_367 ?_
      refine m_calli (m_runS (As := [.long v, .long 0, .long (4)]) (rest := []) X (k_X10_isIn Γ l L (rM Γ L (sH x (h, d))) v 0 (4)) s_X10_isIn ml_X10_79 hw hS rfl hl.1 ⟨Nat.le_of_ble_eq_true rfl, Nat.le_of_ble_eq_true rfl⟩ (Nat.le_of_ble_eq_true rfl) ⟨Nat.le_of_ble_eq_true rfl, Nat.le_of_ble_eq_true rfl⟩ dX10_does_370) hS (fun r_67 L1 M1 H locs hp_66 hw hS => ?_)
      obtain ⟨rfl, e1, e2⟩ := hp_66
      rw [e1, e2] at hw; clear e1 e2
      refine lv_if_eq (tgt := 401) hx hb dX10_does_373 (by decide) (fun c_68 => ?_) (fun c_68 => ?_)
      · skip
        have c_68 := bI_f c_68
        refine lv_iconst (v := 0) hx hb dX10_does_401 (by decide) ?_
        exact m_zret (b := false) X hr hlk hw hS (Nat.zero_le _) (Nat.zero_le _) rfl ⟨(h, d), rfl, rfl, by clear hb hx hl hS hw hnm hlk hr X; first | (rw [p_op_out (by assumption)]; simp_all [bI]; done) | (simp_all [bI, Nat.pos_iff_ne_zero, p_op, p_3, p_4, p_5, p_6, p_7, p_8, p_9, p_10, p_11, p_14, p_15]; done)⟩ dX10_does_402
      · skip
        have c_68 := bI_t c_68
        have c_680 := c_68
        obtain ⟨tt, htt1, htt2, rfl⟩ := isIn_natL (l := 0) (h := 4) (by decide) (by decide) (by decide) c_680
        have hctt : p_ix (lN tt) = tt := by unfold p_ix; rw [lN_i]; exact nI_clamp (by omega)
        refine lv_aload_n hx hb dX10_does_376 rfl (lv_at hl 2 rfl) ?_
        refine m_calli (m_runV (i := .inl 0) (ci := 8) (As := []) (rest := []) X (k_X10_popLong Γ l L x h d  (by omega)) v_X10_popLong ml_X10_167 hw hS rfl rfl rfl rfl hl.1 ⟨Nat.le_of_ble_eq_true rfl, Nat.le_of_ble_eq_true rfl⟩ (Nat.le_of_ble_eq_true rfl) ⟨Nat.le_of_ble_eq_true rfl, Nat.le_of_ble_eq_true rfl⟩ dX10_does_377) hS (fun r_70 L1 M1 H locs hp_69 hw hS => ?_)
        obtain ⟨q_70, e1, e2, e3⟩ := hp_69
        rw [e1, e2] at hw; clear e1 e2
        rcases ho_70 : p_popL (h, d) with _ | ⟨h_70, d_70⟩
        · rw [ho_70] at e3; subst e3
          refine lv_if_eq (tgt := 401) hx hb dX10_does_380 (by decide) (fun _ => ?_) (fun h => absurd rfl h)
          refine lv_iconst (v := 0) hx hb dX10_does_401 (by decide) ?_
          exact m_zret (b := false) X hr hlk hw hS (Nat.zero_le _) (Nat.zero_le _) rfl ⟨(q_70.1, q_70.2), rfl, rfl, by clear hb hx hl hS hw hnm hlk hr X; first | (rw [p_op_out (by assumption)]; simp_all [bI]; done) | (simp_all [bI, Nat.pos_iff_ne_zero, p_op, p_3, p_4, p_5, p_6, p_7, p_8, p_9, p_10, p_11, p_14, p_15]; done)⟩ dX10_does_402
        · rw [ho_70] at e3; obtain ⟨e3, e4⟩ := e3; subst e3; subst e4
          have hd_70 := p_popL_le ho_70 (by omega)
          refine lv_if_eq (tgt := 401) hx hb dX10_does_380 (by decide) (fun h => absurd h (by decide)) (fun _ => ?_)
          refine lv_aload_n hx hb dX10_does_383 rfl (lv_at hl 2 rfl) ?_
          refine m_calli (m_runV (i := .inl 0) (ci := 8) (As := []) (rest := []) X (k_X10_popLong Γ l L x h_70 d_70  (by omega)) v_X10_popLong ml_X10_167 hw hS rfl rfl rfl rfl hl.1 ⟨Nat.le_of_ble_eq_true rfl, Nat.le_of_ble_eq_true rfl⟩ (Nat.le_of_ble_eq_true rfl) ⟨Nat.le_of_ble_eq_true rfl, Nat.le_of_ble_eq_true rfl⟩ dX10_does_384) hS (fun r_74 L1 M1 H locs hp_73 hw hS => ?_)
          obtain ⟨q_74, e1, e2, e3⟩ := hp_73
          rw [e1, e2] at hw; clear e1 e2
          rcases ho_74 : p_popL (h_70, d_70) with _ | ⟨h_74, d_74⟩
          · rw [ho_74] at e3; subst e3
            refine lv_if_eq (tgt := 401) hx hb dX10_does_387 (by decide) (fun _ => ?_) (fun h => absurd rfl h)
            refine lv_iconst (v := 0) hx hb dX10_does_401 (by decide) ?_
            exact m_zret (b := false) X hr hlk hw hS (Nat.zero_le _) (Nat.zero_le _) rfl ⟨(q_74.1, q_74.2), rfl, rfl, by clear hb hx hl hS hw hnm hlk hr X; first | (rw [p_op_out (by assumption)]; simp_all [bI]; done) | (simp_all [bI, Nat.pos_iff_ne_zero, p_op, p_3, p_4, p_5, p_6, p_7, p_8, p_9, p_10, p_11, p_14, p_15]; done)⟩ dX10_does_402
          · rw [ho_74] at e3; obtain ⟨e3, e4⟩ := e3; subst e3; subst e4
            have hd_74 := p_popL_le ho_74 (by omega)
            refine lv_if_eq (tgt := 401) hx hb dX10_does_387 (by decide) (fun h => absurd h (by decide)) (fun _ => ?_)
            refine lv_aload_n hx hb dX10_does_390 rfl (lv_at hl 2 rfl) ?_
            refine m_calli (m_runV (i := .inl 0) (ci := 8) (As := []) (rest := []) X (k_X10_pushLong Γ l L x h_74 d_74  (by omega)) v_X10_pushLong ml_X10_154 hw hS rfl rfl rfl rfl hl.1 ⟨Nat.le_of_ble_eq_true rfl, Nat.le_of_ble_eq_true rfl⟩ (Nat.le_of_ble_eq_true rfl) ⟨Nat.le_of_ble_eq_true rfl, Nat.le_of_ble_eq_true rfl⟩ dX10_does_391) hS (fun r_78 L1 M1 H locs hp_77 hw hS => ?_)
            obtain ⟨q_78, e1, e2, e3⟩ := hp_77
            rw [e1, e2] at hw; clear e1 e2
            rcases ho_78 : p_pushL (h_74, d_74) with _ | ⟨h_78, d_78⟩
            · rw [ho_78] at e3; subst e3
              refine lv_if_eq (tgt := 401) hx hb dX10_does_394 (by decide) (fun _ => ?_) (fun h => absurd rfl h)
              refine lv_iconst (v := 0) hx hb dX10_does_401 (by decide) ?_
              exact m_zret (b := false) X hr hlk hw hS (Nat.zero_le _) (Nat.zero_le _) rfl ⟨(q_78.1, q_78.2), rfl, rfl, by clear hb hx hl hS hw hnm hlk hr X; first | (rw [p_op_out (by assumption)]; simp_all [bI]; done) | (simp_all [bI, Nat.pos_iff_ne_zero, p_op, p_3, p_4, p_5, p_6, p_7, p_8, p_9, p_10, p_11, p_14, p_15]; done)⟩ dX10_does_402
            · rw [ho_78] at e3; obtain ⟨e3, e4⟩ := e3; subst e3; subst e4
              have hd_78 := p_pushL_le ho_78 (by omega)
              refine lv_if_eq (tgt := 401) hx hb dX10_does_394 (by decide) (fun h => absurd h (by decide)) (fun _ => ?_)
              refine lv_iconst (v := 1) hx hb dX10_does_397 (by decide) ?_
              refine lv_goto (tgt := 402) hx hb dX10_does_398 (by decide) ?_
              exact m_zret (b := true) X hr hlk hw hS (Nat.zero_le _) (Nat.zero_le _) rfl ⟨(h_78, d_78), rfl, rfl, by clear hb hx hl hS hw hnm hlk hr X; first | (rw [p_op_out (by assumption)]; simp_all [bI]; done) | (simp_all [bI, Nat.pos_iff_ne_zero, p_op, p_3, p_4, p_5, p_6, p_7, p_8, p_9, p_10, p_11, p_14, p_15]; done)⟩ dX10_does_402
    · have c_3e : o = 9 := Int32.toInt_inj.mp c_3v
      refine lv_tableIn (off := 377) (tgt := 403) hx hb dX10_does_26 (by omega) (by omega) (by rw [c_3v]; rfl) (by decide) ?_
      refine lv_aload_n hx hb dX10_does_403 rfl (lv_at hl 2 rfl) ?_
      refine lv_iconst (v := 1) hx hb dX10_does_404 (by decide) ?_
      refine m_calli (m_runV (i := .inl 0) (ci := 8) (As := [.int 1]) (rest := []) X (k_X10_pop Γ l L x h d 1 (by omega)) v_X10_pop ml_X10_170 hw hS rfl rfl rfl rfl hl.1 ⟨Nat.le_of_ble_eq_true rfl, Nat.le_of_ble_eq_true rfl⟩ (Nat.le_of_ble_eq_true rfl) ⟨Nat.le_of_ble_eq_true rfl, Nat.le_of_ble_eq_true rfl⟩ dX10_does_405) hS (fun r_82 L1 M1 H locs hp_81 hw hS => ?_)
      obtain ⟨q_82, e1, e2, e3⟩ := hp_81
      rw [e1, e2] at hw; clear e1 e2
      rcases ho_82 : p_pop (h, d) 1 with _ | ⟨h_82, d_82⟩
      · rw [ho_82] at e3; subst e3
        refine lv_if_eq (tgt := 422) hx hb dX10_does_408 (by decide) (fun _ => ?_) (fun h => absurd rfl h)
        refine lv_iconst (v := 0) hx hb dX10_does_422 (by decide) ?_
        exact m_zret (b := false) X hr hlk hw hS (Nat.zero_le _) (Nat.zero_le _) rfl ⟨(q_82.1, q_82.2), rfl, rfl, by clear hb hx hl hS hw hnm hlk hr X; first | (rw [p_op_out (by assumption)]; simp_all [bI]; done) | (simp_all [bI, Nat.pos_iff_ne_zero, p_op, p_3, p_4, p_5, p_6, p_7, p_8, p_9, p_10, p_11, p_14, p_15]; done)⟩ dX10_does_423
      · rw [ho_82] at e3; obtain ⟨e3, e4⟩ := e3; subst e3; subst e4
        have hd_82 := p_pop_le ho_82 (by omega)
        refine lv_if_eq (tgt := 422) hx hb dX10_does_408 (by decide) (fun h => absurd h (by decide)) (fun _ => ?_)
        refine lv_aload_n hx hb dX10_does_411 rfl (lv_at hl 2 rfl) ?_
        refine m_calli (m_runV (i := .inl 0) (ci := 8) (As := []) (rest := []) X (k_X10_pushLong Γ l L x h_82 d_82  (by omega)) v_X10_pushLong ml_X10_154 hw hS rfl rfl rfl rfl hl.1 ⟨Nat.le_of_ble_eq_true rfl, Nat.le_of_ble_eq_true rfl⟩ (Nat.le_of_ble_eq_true rfl) ⟨Nat.le_of_ble_eq_true rfl, Nat.le_of_ble_eq_true rfl⟩ dX10_does_412) hS (fun r_86 L1 M1 H locs hp_85 hw hS => ?_)
        obtain ⟨q_86, e1, e2, e3⟩ := hp_85
        rw [e1, e2] at hw; clear e1 e2
        rcases ho_86 : p_pushL (h_82, d_82) with _ | ⟨h_86, d_86⟩
        · rw [ho_86] at e3; subst e3
          refine lv_if_eq (tgt := 422) hx hb dX10_does_415 (by decide) (fun _ => ?_) (fun h => absurd rfl h)
          refine lv_iconst (v := 0) hx hb dX10_does_422 (by decide) ?_
          exact m_zret (b := false) X hr hlk hw hS (Nat.zero_le _) (Nat.zero_le _) rfl ⟨(q_86.1, q_86.2), rfl, rfl, by clear hb hx hl hS hw hnm hlk hr X; first | (rw [p_op_out (by assumption)]; simp_all [bI]; done) | (simp_all [bI, Nat.pos_iff_ne_zero, p_op, p_3, p_4, p_5, p_6, p_7, p_8, p_9, p_10, p_11, p_14, p_15]; done)⟩ dX10_does_423
        · rw [ho_86] at e3; obtain ⟨e3, e4⟩ := e3; subst e3; subst e4
          have hd_86 := p_pushL_le ho_86 (by omega)
          refine lv_if_eq (tgt := 422) hx hb dX10_does_415 (by decide) (fun h => absurd h (by decide)) (fun _ => ?_)
          refine lv_iconst (v := 1) hx hb dX10_does_418 (by decide) ?_
          refine lv_goto (tgt := 423) hx hb dX10_does_419 (by decide) ?_
          exact m_zret (b := true) X hr hlk hw hS (Nat.zero_le _) (Nat.zero_le _) rfl ⟨(h_86, d_86), rfl, rfl, by clear hb hx hl hS hw hnm hlk hr X; first | (rw [p_op_out (by assumption)]; simp_all [bI]; done) | (simp_all [bI, Nat.pos_iff_ne_zero, p_op, p_3, p_4, p_5, p_6, p_7, p_8, p_9, p_10, p_11, p_14, p_15]; done)⟩ dX10_does_423
    · have c_3e : o = 10 := Int32.toInt_inj.mp c_3v
      refine lv_tableIn (off := 398) (tgt := 424) hx hb dX10_does_26 (by omega) (by omega) (by rw [c_3v]; rfl) (by decide) ?_
      refine lv_aload_n hx hb dX10_does_424 rfl (lv_at hl 2 rfl) ?_
      refine m_calli (m_runV (i := .inl 0) (ci := 8) (As := []) (rest := []) X (k_X10_popLong Γ l L x h d  (by omega)) v_X10_popLong ml_X10_167 hw hS rfl rfl rfl rfl hl.1 ⟨Nat.le_of_ble_eq_true rfl, Nat.le_of_ble_eq_true rfl⟩ (Nat.le_of_ble_eq_true rfl) ⟨Nat.le_of_ble_eq_true rfl, Nat.le_of_ble_eq_true rfl⟩ dX10_does_425) hS (fun r_90 L1 M1 H locs hp_89 hw hS => ?_)
      obtain ⟨q_90, e1, e2, e3⟩ := hp_89
      rw [e1, e2] at hw; clear e1 e2
      rcases ho_90 : p_popL (h, d) with _ | ⟨h_90, d_90⟩
      · rw [ho_90] at e3; subst e3
        refine lv_if_eq (tgt := 443) hx hb dX10_does_428 (by decide) (fun _ => ?_) (fun h => absurd rfl h)
        refine lv_iconst (v := 0) hx hb dX10_does_443 (by decide) ?_
        exact m_zret (b := false) X hr hlk hw hS (Nat.zero_le _) (Nat.zero_le _) rfl ⟨(q_90.1, q_90.2), rfl, rfl, by clear hb hx hl hS hw hnm hlk hr X; first | (rw [p_op_out (by assumption)]; simp_all [bI]; done) | (simp_all [bI, Nat.pos_iff_ne_zero, p_op, p_3, p_4, p_5, p_6, p_7, p_8, p_9, p_10, p_11, p_14, p_15]; done)⟩ dX10_does_444
      · rw [ho_90] at e3; obtain ⟨e3, e4⟩ := e3; subst e3; subst e4
        have hd_90 := p_popL_le ho_90 (by omega)
        refine lv_if_eq (tgt := 443) hx hb dX10_does_428 (by decide) (fun h => absurd h (by decide)) (fun _ => ?_)
        refine lv_aload_n hx hb dX10_does_431 rfl (lv_at hl 2 rfl) ?_
        refine lv_iconst (v := 1) hx hb dX10_does_432 (by decide) ?_
        refine m_calli (m_runV (i := .inl 0) (ci := 8) (As := [.int 1]) (rest := []) X (k_X10_push Γ l L x h_90 d_90 1 (by omega)) v_X10_push ml_X10_148 hw hS rfl rfl rfl rfl hl.1 ⟨Nat.le_of_ble_eq_true rfl, Nat.le_of_ble_eq_true rfl⟩ (Nat.le_of_ble_eq_true rfl) ⟨Nat.le_of_ble_eq_true rfl, Nat.le_of_ble_eq_true rfl⟩ dX10_does_433) hS (fun r_94 L1 M1 H locs hp_93 hw hS => ?_)
        obtain ⟨q_94, e1, e2, e3⟩ := hp_93
        rw [e1, e2] at hw; clear e1 e2
        rcases ho_94 : p_push (h_90, d_90) 1 with _ | ⟨h_94, d_94⟩
        · rw [ho_94] at e3; subst e3
          refine lv_if_eq (tgt := 443) hx hb dX10_does_436 (by decide) (fun _ => ?_) (fun h => absurd rfl h)
          refine lv_iconst (v := 0) hx hb dX10_does_443 (by decide) ?_
          exact m_zret (b := false) X hr hlk hw hS (Nat.zero_le _) (Nat.zero_le _) rfl ⟨(q_94.1, q_94.2), rfl, rfl, by clear hb hx hl hS hw hnm hlk hr X; first | (rw [p_op_out (by assumption)]; simp_all [bI]; done) | (simp_all [bI, Nat.pos_iff_ne_zero, p_op, p_3, p_4, p_5, p_6, p_7, p_8, p_9, p_10, p_11, p_14, p_15]; done)⟩ dX10_does_444
        · rw [ho_94] at e3; obtain ⟨e3, e4⟩ := e3; subst e3; subst e4
          have hd_94 := p_push_le ho_94 (by omega)
          refine lv_if_eq (tgt := 443) hx hb dX10_does_436 (by decide) (fun h => absurd h (by decide)) (fun _ => ?_)
          refine lv_iconst (v := 1) hx hb dX10_does_439 (by decide) ?_
          refine lv_goto (tgt := 444) hx hb dX10_does_440 (by decide) ?_
          exact m_zret (b := true) X hr hlk hw hS (Nat.zero_le _) (Nat.zero_le _) rfl ⟨(h_94, d_94), rfl, rfl, by clear hb hx hl hS hw hnm hlk hr X; first | (rw [p_op_out (by assumption)]; simp_all [bI]; done) | (simp_all [bI, Nat.pos_iff_ne_zero, p_op, p_3, p_4, p_5, p_6, p_7, p_8, p_9, p_10, p_11, p_14, p_15]; done)⟩ dX10_does_444
    · have c_3e : o = 11 := Int32.toInt_inj.mp c_3v
      refine lv_tableIn (off := 419) (tgt := 445) hx hb dX10_does_26 (by omega) (by omega) (by rw [c_3v]; rfl) (by decide) ?_
      refine lv_aload_n hx hb dX10_does_445 rfl (lv_at hl 2 rfl) ?_
      refine m_calli (m_runV (i := .inl 0) (ci := 8) (As := []) (rest := []) X (k_X10_popLong Γ l L x h d  (by omega)) v_X10_popLong ml_X10_167 hw hS rfl rfl rfl rfl hl.1 ⟨Nat.le_of_ble_eq_true rfl, Nat.le_of_ble_eq_true rfl⟩ (Nat.le_of_ble_eq_true rfl) ⟨Nat.le_of_ble_eq_true rfl, Nat.le_of_ble_eq_true rfl⟩ dX10_does_446) hS (fun r_98 L1 M1 H locs hp_97 hw hS => ?_)
      obtain ⟨q_98, e1, e2, e3⟩ := hp_97
      rw [e1, e2] at hw; clear e1 e2
      rcases ho_98 : p_popL (h, d) with _ | ⟨h_98, d_98⟩
      · rw [ho_98] at e3; subst e3
        refine lv_if_eq (tgt := 471) hx hb dX10_does_449 (by decide) (fun _ => ?_) (fun h => absurd rfl h)
        refine lv_iconst (v := 0) hx hb dX10_does_471 (by decide) ?_
        exact m_zret (b := false) X hr hlk hw hS (Nat.zero_le _) (Nat.zero_le _) rfl ⟨(q_98.1, q_98.2), rfl, rfl, by clear hb hx hl hS hw hnm hlk hr X; first | (rw [p_op_out (by assumption)]; simp_all [bI]; done) | (simp_all [bI, Nat.pos_iff_ne_zero, p_op, p_3, p_4, p_5, p_6, p_7, p_8, p_9, p_10, p_11, p_14, p_15]; done)⟩ dX10_does_472
      · rw [ho_98] at e3; obtain ⟨e3, e4⟩ := e3; subst e3; subst e4
        have hd_98 := p_popL_le ho_98 (by omega)
        refine lv_if_eq (tgt := 471) hx hb dX10_does_449 (by decide) (fun h => absurd h (by decide)) (fun _ => ?_)
        refine lv_aload_n hx hb dX10_does_452 rfl (lv_at hl 2 rfl) ?_
        refine m_calli (m_runV (i := .inl 0) (ci := 8) (As := []) (rest := []) X (k_X10_popLong Γ l L x h_98 d_98  (by omega)) v_X10_popLong ml_X10_167 hw hS rfl rfl rfl rfl hl.1 ⟨Nat.le_of_ble_eq_true rfl, Nat.le_of_ble_eq_true rfl⟩ (Nat.le_of_ble_eq_true rfl) ⟨Nat.le_of_ble_eq_true rfl, Nat.le_of_ble_eq_true rfl⟩ dX10_does_453) hS (fun r_102 L1 M1 H locs hp_101 hw hS => ?_)
        obtain ⟨q_102, e1, e2, e3⟩ := hp_101
        rw [e1, e2] at hw; clear e1 e2
        rcases ho_102 : p_popL (h_98, d_98) with _ | ⟨h_102, d_102⟩
        · rw [ho_102] at e3; subst e3
          refine lv_if_eq (tgt := 471) hx hb dX10_does_456 (by decide) (fun _ => ?_) (fun h => absurd rfl h)
          refine lv_iconst (v := 0) hx hb dX10_does_471 (by decide) ?_
          exact m_zret (b := false) X hr hlk hw hS (Nat.zero_le _) (Nat.zero_le _) rfl ⟨(q_102.1, q_102.2), rfl, rfl, by clear hb hx hl hS hw hnm hlk hr X; first | (rw [p_op_out (by assumption)]; simp_all [bI]; done) | (simp_all [bI, Nat.pos_iff_ne_zero, p_op, p_3, p_4, p_5, p_6, p_7, p_8, p_9, p_10, p_11, p_14, p_15]; done)⟩ dX10_does_472
        · rw [ho_102] at e3; obtain ⟨e3, e4⟩ := e3; subst e3; subst e4
          have hd_102 := p_popL_le ho_102 (by omega)
          refine lv_if_eq (tgt := 471) hx hb dX10_does_456 (by decide) (fun h => absurd h (by decide)) (fun _ => ?_)
          refine lv_aload_n hx hb dX10_does_459 rfl (lv_at hl 2 rfl) ?_
          refine lv_iconst (v := 1) hx hb dX10_does_460 (by decide) ?_
          refine m_calli (m_runV (i := .inl 0) (ci := 8) (As := [.int 1]) (rest := []) X (k_X10_push Γ l L x h_102 d_102 1 (by omega)) v_X10_push ml_X10_148 hw hS rfl rfl rfl rfl hl.1 ⟨Nat.le_of_ble_eq_true rfl, Nat.le_of_ble_eq_true rfl⟩ (Nat.le_of_ble_eq_true rfl) ⟨Nat.le_of_ble_eq_true rfl, Nat.le_of_ble_eq_true rfl⟩ dX10_does_461) hS (fun r_106 L1 M1 H locs hp_105 hw hS => ?_)
          obtain ⟨q_106, e1, e2, e3⟩ := hp_105
          rw [e1, e2] at hw; clear e1 e2
          rcases ho_106 : p_push (h_102, d_102) 1 with _ | ⟨h_106, d_106⟩
          · rw [ho_106] at e3; subst e3
            refine lv_if_eq (tgt := 471) hx hb dX10_does_464 (by decide) (fun _ => ?_) (fun h => absurd rfl h)
            refine lv_iconst (v := 0) hx hb dX10_does_471 (by decide) ?_
            exact m_zret (b := false) X hr hlk hw hS (Nat.zero_le _) (Nat.zero_le _) rfl ⟨(q_106.1, q_106.2), rfl, rfl, by clear hb hx hl hS hw hnm hlk hr X; first | (rw [p_op_out (by assumption)]; simp_all [bI]; done) | (simp_all [bI, Nat.pos_iff_ne_zero, p_op, p_3, p_4, p_5, p_6, p_7, p_8, p_9, p_10, p_11, p_14, p_15]; done)⟩ dX10_does_472
          · rw [ho_106] at e3; obtain ⟨e3, e4⟩ := e3; subst e3; subst e4
            have hd_106 := p_push_le ho_106 (by omega)
            refine lv_if_eq (tgt := 471) hx hb dX10_does_464 (by decide) (fun h => absurd h (by decide)) (fun _ => ?_)
            refine lv_iconst (v := 1) hx hb dX10_does_467 (by decide) ?_
            refine lv_goto (tgt := 472) hx hb dX10_does_468 (by decide) ?_
            exact m_zret (b := true) X hr hlk hw hS (Nat.zero_le _) (Nat.zero_le _) rfl ⟨(h_106, d_106), rfl, rfl, by clear hb hx hl hS hw hnm hlk hr X; first | (rw [p_op_out (by assumption)]; simp_all [bI]; done) | (simp_all [bI, Nat.pos_iff_ne_zero, p_op, p_3, p_4, p_5, p_6, p_7, p_8, p_9, p_10, p_11, p_14, p_15]; done)⟩ dX10_does_472
    · have c_3e : o = 12 := Int32.toInt_inj.mp c_3v
      refine lv_tableIn (off := 447) (tgt := 473) hx hb dX10_does_26 (by omega) (by omega) (by rw [c_3v]; rfl) (by decide) ?_
      refine lv_aload_n hx hb dX10_does_473 rfl (lv_at hl 2 rfl) ?_
      refine lv_iload_n hx hb dX10_does_474 rfl (lv_at hl 4 rfl) ?_
      refine lv_lload hx hb dX10_does_475 (lv_at hl 0 rfl) ?_
      refine m_calli (m_runV (i := .inl 0) (ci := 8) (As := [.int b, .long v]) (rest := []) X (k_X10_isNew Γ l L x h d b v (by omega)) v_X10_isNew ml_X10_173 hw hS rfl rfl rfl rfl hl.1 ⟨Nat.le_of_ble_eq_true rfl, Nat.le_of_ble_eq_true rfl⟩ (Nat.le_of_ble_eq_true rfl) ⟨Nat.le_of_ble_eq_true rfl, Nat.le_of_ble_eq_true rfl⟩ dX10_does_477) hS (fun r_110 L1 M1 H locs hp_109 hw hS => ?_)
      obtain ⟨q_110, e1, e2, e3⟩ := hp_109
      rw [e1, e2] at hw; clear e1 e2
      rcases ho_110 : p_new (h, d) b v with _ | ⟨h_110, d_110⟩
      · rw [ho_110] at e3; subst e3
        exact m_zret (b := false) X hr hlk hw hS (Nat.zero_le _) (Nat.zero_le _) rfl ⟨(q_110.1, q_110.2), rfl, rfl, by clear hb hx hl hS hw hnm hlk hr X; first | (rw [p_op_out (by assumption)]; simp_all [bI]; done) | (simp_all [bI, Nat.pos_iff_ne_zero, p_op, p_3, p_4, p_5, p_6, p_7, p_8, p_9, p_10, p_11, p_14, p_15]; done)⟩ dX10_does_480
      · rw [ho_110] at e3; obtain ⟨e3, e4⟩ := e3; subst e3; subst e4
        have hd_110 := p_new_le ho_110 (by omega)
        exact m_zret (b := true) X hr hlk hw hS (Nat.zero_le _) (Nat.zero_le _) rfl ⟨(h_110, d_110), rfl, rfl, by clear hb hx hl hS hw hnm hlk hr X; first | (rw [p_op_out (by assumption)]; simp_all [bI]; done) | (simp_all [bI, Nat.pos_iff_ne_zero, p_op, p_3, p_4, p_5, p_6, p_7, p_8, p_9, p_10, p_11, p_14, p_15]; done)⟩ dX10_does_480
    · have c_3e : o = 13 := Int32.toInt_inj.mp c_3v
      refine lv_tableIn (off := 455) (tgt := 481) hx hb dX10_does_26 (by omega) (by omega) (by rw [c_3v]; rfl) (by decide) ?_
      refine lv_aload_n hx hb dX10_does_481 rfl (lv_at hl 2 rfl) ?_
      refine lv_iload_n hx hb dX10_does_482 rfl (lv_at hl 3 rfl) ?_
      refine lv_lload hx hb dX10_does_483 (lv_at hl 0 rfl) ?_
      refine m_calli (m_runV (i := .inl 0) (ci := 8) (As := [.int a, .long v]) (rest := []) X (k_X10_isMade Γ l L x h d a v (by omega) k om ha hk hom ho40) v_X10_isMade ml_X10_177 hw hS rfl rfl rfl rfl hl.1 ⟨Nat.le_of_ble_eq_true rfl, Nat.le_of_ble_eq_true rfl⟩ (Nat.le_of_ble_eq_true rfl) ⟨Nat.le_of_ble_eq_true rfl, Nat.le_of_ble_eq_true rfl⟩ dX10_does_485) hS (fun r_112 L1 M1 H locs hp_111 hw hS => ?_)
      obtain ⟨q_112, e1, e2, e3⟩ := hp_111
      rw [e1, e2] at hw; clear e1 e2
      rcases ho_112 : p_made (fun j => x.2.1 3 (40 * k + j)) (fun j => x.2.2 4 (40 * k + j)) om (h, d) v with _ | ⟨h_112, d_112⟩
      · rw [ho_112] at e3; subst e3
        exact m_zret (b := false) X hr hlk hw hS (Nat.zero_le _) (Nat.zero_le _) rfl ⟨(q_112.1, q_112.2), rfl, rfl, by clear hb hx hl hS hw hnm hlk hr X; first | (rw [p_op_out (by assumption)]; simp_all [bI]; done) | (simp_all [bI, Nat.pos_iff_ne_zero, p_op, p_3, p_4, p_5, p_6, p_7, p_8, p_9, p_10, p_11, p_14, p_15]; done)⟩ dX10_does_488
      · rw [ho_112] at e3; obtain ⟨e3, e4⟩ := e3; subst e3; subst e4
        have hd_112 := p_made_le ho_112 (by omega)
        exact m_zret (b := true) X hr hlk hw hS (Nat.zero_le _) (Nat.zero_le _) rfl ⟨(h_112, d_112), rfl, rfl, by clear hb hx hl hS hw hnm hlk hr X; first | (rw [p_op_out (by assumption)]; simp_all [bI]; done) | (simp_all [bI, Nat.pos_iff_ne_zero, p_op, p_3, p_4, p_5, p_6, p_7, p_8, p_9, p_10, p_11, p_14, p_15]; done)⟩ dX10_does_488
    · have c_3e : o = 14 := Int32.toInt_inj.mp c_3v
      refine lv_tableIn (off := 463) (tgt := 489) hx hb dX10_does_26 (by omega) (by omega) (by rw [c_3v]; rfl) (by decide) ?_
      refine lv_aload_n hx hb dX10_does_489 rfl (lv_at hl 2 rfl) ?_
      refine lv_iconst (v := 1) hx hb dX10_does_490 (by decide) ?_
      refine m_calli (m_runV (i := .inl 0) (ci := 8) (As := [.int 1]) (rest := []) X (k_X10_pop Γ l L x h d 1 (by omega)) v_X10_pop ml_X10_170 hw hS rfl rfl rfl rfl hl.1 ⟨Nat.le_of_ble_eq_true rfl, Nat.le_of_ble_eq_true rfl⟩ (Nat.le_of_ble_eq_true rfl) ⟨Nat.le_of_ble_eq_true rfl, Nat.le_of_ble_eq_true rfl⟩ dX10_does_491) hS (fun r_114 L1 M1 H locs hp_113 hw hS => ?_)
      obtain ⟨q_114, e1, e2, e3⟩ := hp_113
      rw [e1, e2] at hw; clear e1 e2
      rcases ho_114 : p_pop (h, d) 1 with _ | ⟨h_114, d_114⟩
      · rw [ho_114] at e3; subst e3
        refine lv_if_eq (tgt := 509) hx hb dX10_does_494 (by decide) (fun _ => ?_) (fun h => absurd rfl h)
        refine lv_iconst (v := 0) hx hb dX10_does_509 (by decide) ?_
        exact m_zret (b := false) X hr hlk hw hS (Nat.zero_le _) (Nat.zero_le _) rfl ⟨(q_114.1, q_114.2), rfl, rfl, by clear hb hx hl hS hw hnm hlk hr X; first | (rw [p_op_out (by assumption)]; simp_all [bI]; done) | (simp_all [bI, Nat.pos_iff_ne_zero, p_op, p_3, p_4, p_5, p_6, p_7, p_8, p_9, p_10, p_11, p_14, p_15]; done)⟩ dX10_does_510
      · rw [ho_114] at e3; obtain ⟨e3, e4⟩ := e3; subst e3; subst e4
        have hd_114 := p_pop_le ho_114 (by omega)
        refine lv_if_eq (tgt := 509) hx hb dX10_does_494 (by decide) (fun h => absurd h (by decide)) (fun _ => ?_)
        refine lv_aload_n hx hb dX10_does_497 rfl (lv_at hl 2 rfl) ?_
        refine lv_iconst (v := 5) hx hb dX10_does_498 (by decide) ?_
        refine m_calli (m_runV (i := .inl 0) (ci := 8) (As := [.int 5]) (rest := []) X (k_X10_push Γ l L x h_114 d_114 5 (by omega)) v_X10_push ml_X10_148 hw hS rfl rfl rfl rfl hl.1 ⟨Nat.le_of_ble_eq_true rfl, Nat.le_of_ble_eq_true rfl⟩ (Nat.le_of_ble_eq_true rfl) ⟨Nat.le_of_ble_eq_true rfl, Nat.le_of_ble_eq_true rfl⟩ dX10_does_499) hS (fun r_118 L1 M1 H locs hp_117 hw hS => ?_)
        obtain ⟨q_118, e1, e2, e3⟩ := hp_117
        rw [e1, e2] at hw; clear e1 e2
        rcases ho_118 : p_push (h_114, d_114) 5 with _ | ⟨h_118, d_118⟩
        · rw [ho_118] at e3; subst e3
          refine lv_if_eq (tgt := 509) hx hb dX10_does_502 (by decide) (fun _ => ?_) (fun h => absurd rfl h)
          refine lv_iconst (v := 0) hx hb dX10_does_509 (by decide) ?_
          exact m_zret (b := false) X hr hlk hw hS (Nat.zero_le _) (Nat.zero_le _) rfl ⟨(q_118.1, q_118.2), rfl, rfl, by clear hb hx hl hS hw hnm hlk hr X; first | (rw [p_op_out (by assumption)]; simp_all [bI]; done) | (simp_all [bI, Nat.pos_iff_ne_zero, p_op, p_3, p_4, p_5, p_6, p_7, p_8, p_9, p_10, p_11, p_14, p_15]; done)⟩ dX10_does_510
        · rw [ho_118] at e3; obtain ⟨e3, e4⟩ := e3; subst e3; subst e4
          have hd_118 := p_push_le ho_118 (by omega)
          refine lv_if_eq (tgt := 509) hx hb dX10_does_502 (by decide) (fun h => absurd h (by decide)) (fun _ => ?_)
          refine lv_iconst (v := 1) hx hb dX10_does_505 (by decide) ?_
          refine lv_goto (tgt := 510) hx hb dX10_does_506 (by decide) ?_
          exact m_zret (b := true) X hr hlk hw hS (Nat.zero_le _) (Nat.zero_le _) rfl ⟨(h_118, d_118), rfl, rfl, by clear hb hx hl hS hw hnm hlk hr X; first | (rw [p_op_out (by assumption)]; simp_all [bI]; done) | (simp_all [bI, Nat.pos_iff_ne_zero, p_op, p_3, p_4, p_5, p_6, p_7, p_8, p_9, p_10, p_11, p_14, p_15]; done)⟩ dX10_does_510
    · have c_3e : o = 15 := Int32.toInt_inj.mp c_3v
      refine lv_tableIn (off := 485) (tgt := 511) hx hb dX10_does_26 (by omega) (by omega) (by rw [c_3v]; rfl) (by decide) ?_
      refine lv_lload hx hb dX10_does_511 (lv_at hl 0 rfl) ?_
      refine lv_lconst (v := 1) hx hb dX10_does_513 (by decide) ?_
      refine lv_ldc2 (v := (5)) hx hb X.1.2.2.2.1 (X.1.2.2.2.2 _ kl_X10_102) dX10_does_514 ?_
      refine m_calli (m_runS (As := [.long v, .long 1, .long (5)]) (rest := []) X (k_X10_isIn Γ l L (rM Γ L (sH x (h, d))) v 1 (5)) s_X10_isIn ml_X10_79 hw hS rfl hl.1 ⟨Nat.le_of_ble_eq_true rfl, Nat.le_of_ble_eq_true rfl⟩ (Nat.le_of_ble_eq_true rfl) ⟨Nat.le_of_ble_eq_true rfl, Nat.le_of_ble_eq_true rfl⟩ dX10_does_517) hS (fun r_122 L1 M1 H locs hp_121 hw hS => ?_)
      obtain ⟨rfl, e1, e2⟩ := hp_121
      rw [e1, e2] at hw; clear e1 e2
      refine lv_if_eq (tgt := 548) hx hb dX10_does_520 (by decide) (fun c_123 => ?_) (fun c_123 => ?_)
      · skip
        have c_123 := bI_f c_123
        refine lv_iconst (v := 0) hx hb dX10_does_548 (by decide) ?_
        exact m_zret (b := false) X hr hlk hw hS (Nat.zero_le _) (Nat.zero_le _) rfl ⟨(h, d), rfl, rfl, by clear hb hx hl hS hw hnm hlk hr X; first | (rw [p_op_out (by assumption)]; simp_all [bI]; done) | (simp_all [bI, Nat.pos_iff_ne_zero, p_op, p_3, p_4, p_5, p_6, p_7, p_8, p_9, p_10, p_11, p_14, p_15]; done)⟩ dX10_does_549
      · skip
        have c_123 := bI_t c_123
        have c_1230 := c_123
        obtain ⟨tt, htt1, htt2, rfl⟩ := isIn_natL (l := 1) (h := 5) (by decide) (by decide) (by decide) c_1230
        have hctt : p_ix (lN tt) = tt := by unfold p_ix; rw [lN_i]; exact nI_clamp (by omega)
        refine lv_aload_n hx hb dX10_does_523 rfl (lv_at hl 2 rfl) ?_
        refine lv_iconst (v := 1) hx hb dX10_does_524 (by decide) ?_
        refine m_calli (m_runV (i := .inl 0) (ci := 8) (As := [.int 1]) (rest := []) X (k_X10_pop Γ l L x h d 1 (by omega)) v_X10_pop ml_X10_170 hw hS rfl rfl rfl rfl hl.1 ⟨Nat.le_of_ble_eq_true rfl, Nat.le_of_ble_eq_true rfl⟩ (Nat.le_of_ble_eq_true rfl) ⟨Nat.le_of_ble_eq_true rfl, Nat.le_of_ble_eq_true rfl⟩ dX10_does_525) hS (fun r_125 L1 M1 H locs hp_124 hw hS => ?_)
        obtain ⟨q_125, e1, e2, e3⟩ := hp_124
        rw [e1, e2] at hw; clear e1 e2
        rcases ho_125 : p_pop (h, d) 1 with _ | ⟨h_125, d_125⟩
        · rw [ho_125] at e3; subst e3
          refine lv_if_eq (tgt := 548) hx hb dX10_does_528 (by decide) (fun _ => ?_) (fun h => absurd rfl h)
          refine lv_iconst (v := 0) hx hb dX10_does_548 (by decide) ?_
          exact m_zret (b := false) X hr hlk hw hS (Nat.zero_le _) (Nat.zero_le _) rfl ⟨(q_125.1, q_125.2), rfl, rfl, by clear hb hx hl hS hw hnm hlk hr X; first | (rw [p_op_out (by assumption)]; simp_all [bI]; done) | (simp_all [bI, Nat.pos_iff_ne_zero, p_op, p_3, p_4, p_5, p_6, p_7, p_8, p_9, p_10, p_11, p_14, p_15]; done)⟩ dX10_does_549
        · rw [ho_125] at e3; obtain ⟨e3, e4⟩ := e3; subst e3; subst e4
          have hd_125 := p_pop_le ho_125 (by omega)
          refine lv_if_eq (tgt := 548) hx hb dX10_does_528 (by decide) (fun h => absurd h (by decide)) (fun _ => ?_)
          refine lv_aload_n hx hb dX10_does_531 rfl (lv_at hl 2 rfl) ?_
          refine lv_bipush (v := 20) hx hb dX10_does_532 (by decide) ?_
          refine lv_lload hx hb dX10_does_534 (lv_at hl 0 rfl) ?_
          refine lv_l2i (v := (lN tt).toInt32) hx hb dX10_does_536 rfl ?_
          refine lv_iadd hx hb dX10_does_537 ?_
          refine m_calli (m_runV (i := .inl 0) (ci := 8) (As := [.int (20 + ((lN tt).toInt32))]) (rest := []) X (k_X10_push Γ l L x h_125 d_125 (20 + ((lN tt).toInt32)) (by omega)) v_X10_push ml_X10_148 hw hS rfl rfl rfl rfl hl.1 ⟨Nat.le_of_ble_eq_true rfl, Nat.le_of_ble_eq_true rfl⟩ (Nat.le_of_ble_eq_true rfl) ⟨Nat.le_of_ble_eq_true rfl, Nat.le_of_ble_eq_true rfl⟩ dX10_does_538) hS (fun r_129 L1 M1 H locs hp_128 hw hS => ?_)
          obtain ⟨q_129, e1, e2, e3⟩ := hp_128
          rw [e1, e2] at hw; clear e1 e2
          rcases ho_129 : p_push (h_125, d_125) (20 + ((lN tt).toInt32)) with _ | ⟨h_129, d_129⟩
          · rw [ho_129] at e3; subst e3
            refine lv_if_eq (tgt := 548) hx hb dX10_does_541 (by decide) (fun _ => ?_) (fun h => absurd rfl h)
            refine lv_iconst (v := 0) hx hb dX10_does_548 (by decide) ?_
            exact m_zret (b := false) X hr hlk hw hS (Nat.zero_le _) (Nat.zero_le _) rfl ⟨(q_129.1, q_129.2), rfl, rfl, by clear hb hx hl hS hw hnm hlk hr X; first | (rw [p_op_out (by assumption)]; simp_all [bI]; done) | (simp_all [bI, Nat.pos_iff_ne_zero, p_op, p_3, p_4, p_5, p_6, p_7, p_8, p_9, p_10, p_11, p_14, p_15]; done)⟩ dX10_does_549
          · rw [ho_129] at e3; obtain ⟨e3, e4⟩ := e3; subst e3; subst e4
            have hd_129 := p_push_le ho_129 (by omega)
            refine lv_if_eq (tgt := 548) hx hb dX10_does_541 (by decide) (fun h => absurd h (by decide)) (fun _ => ?_)
            refine lv_iconst (v := 1) hx hb dX10_does_544 (by decide) ?_
            refine lv_goto (tgt := 549) hx hb dX10_does_545 (by decide) ?_
            exact m_zret (b := true) X hr hlk hw hS (Nat.zero_le _) (Nat.zero_le _) rfl ⟨(h_129, d_129), rfl, rfl, by clear hb hx hl hS hw hnm hlk hr X; first | (rw [p_op_out (by assumption)]; simp_all [bI]; done) | (simp_all [bI, Nat.pos_iff_ne_zero, p_op, p_3, p_4, p_5, p_6, p_7, p_8, p_9, p_10, p_11, p_14, p_15]; done)⟩ dX10_does_549
