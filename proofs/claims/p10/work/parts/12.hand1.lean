theorem p_push_le {q z : PL} {k : Int32} (h : p_push q k = some z) (hd : q.2 ≤ 8) : z.2 ≤ 8 := by
  unfold p_push at h
  by_cases c : q.2 = 8
  · rw [if_pos c] at h; cases h
  · rw [if_neg c] at h; cases h; show q.2 + 1 ≤ 8; omega
theorem p_pop_le {q z : PL} {k : Int32} (h : p_pop q k = some z) (hd : q.2 ≤ 8) : z.2 ≤ 8 := by
  unfold p_pop at h
  by_cases c : q.2 = 0
  · rw [if_pos c] at h; cases h
  · rw [if_neg c] at h
    by_cases c2 : r_goes (q.1 (7 + q.2)) k = true
    · rw [if_pos c2] at h; cases h; show q.2 - 1 ≤ 8; omega
    · rw [if_neg c2] at h; cases h
theorem p_pushL_le {q z : PL} (h : p_pushL q = some z) (hd : q.2 ≤ 8) : z.2 ≤ 8 := by
  unfold p_pushL at h
  cases h1 : p_push q 2 with
  | none => rw [h1] at h; cases h
  | some w => rw [h1] at h; exact p_push_le (q := w) h (p_push_le h1 hd)
theorem p_popL_le {q z : PL} (h : p_popL q = some z) (hd : q.2 ≤ 8) : z.2 ≤ 8 := by
  unfold p_popL at h
  by_cases c : 2 ≤ q.2 ∧ q.1 (7 + q.2) = 3 ∧ q.1 (6 + q.2) = 2
  · rw [if_pos c] at h; cases h; show q.2 - 2 ≤ 8; omega
  · rw [if_neg c] at h; cases h
theorem v_X10_push : mVm yX10_push cX10_push 2 (some .boolean) 1 := ⟨cd_X10_push, im_X10_push, se_X10_push, ini_X10, by decide, by decide, by decide +kernel⟩
set_option maxHeartbeats 4000000 in
set_option maxRecDepth 100000 in
theorem k_X10_push (Γ : mG) (l : Launch) (L : mI → Nat) (x : RS) (h : Nat → Int32) (d : Nat) (a : Int32) (hd : d ≤ 8)  : mMet Γ l yX10_push cX10_push 2 (some .boolean) { frames := 0, cells := 0, slots := 0, locals := 0 } [.ref (L (.inl 0)), .int a] L (rM Γ L (sH x (h, d))) (mQi Γ (mHand Γ L x (p_push (h, d) a))) := by
  refine m_start (by decide) (Nat.le_of_ble_eq_true rfl) ?_
  intro p e s m args below meth c A ls X hr hlk hnm hw hS hl
  have hx := X.1.1
  have hb := X.1.2.1
  have hl : lv_has ls 2 [(0, .ref (L (.inl 0))), (1, .int a)] := hl
  refine lv_aload_n hx hb dX10_push_0 rfl (lv_at hl 0 rfl) ?_
  refine h_get15 X hw dX10_push_1 ?_
  refine lv_bipush (v := 8) hx hb dX10_push_4 (by decide) ?_
  refine lv_icmp_ne (tgt := 11) hx hb dX10_push_6 (by decide) (fun c_1 => ?_) (fun c_1 => ?_)
  · skip
    have c_1n : ¬ d = 8 := nneT (a := d) (b := 8) rfl rfl (by omega) (by omega) c_1
    refine lv_aload_n hx hb dX10_push_11 rfl (lv_at hl 0 rfl) ?_
    refine r_get14 X hw dX10_push_12 ?_
    refine lv_bipush (v := 8) hx hb dX10_push_15 (by decide) ?_
    refine lv_aload_n hx hb dX10_push_17 rfl (lv_at hl 0 rfl) ?_
    refine h_get15 X hw dX10_push_18 ?_
    refine lv_iadd hx hb dX10_push_21 ?_
    refine lv_iload_n hx hb dX10_push_22 rfl (lv_at hl 1 rfl) ?_
    refine h_ast14 X hw hS (nadd (a := 8) (b := d) rfl rfl) (by omega) dX10_push_23 (fun H locs hw hS => ?_)
    refine lv_aload_n hx hb dX10_push_24 rfl (lv_at hl 0 rfl) ?_
    refine lv_dup hx hb dX10_push_25 rfl ?_
    refine h_get15 X hw dX10_push_26 ?_
    refine lv_iconst (v := 1) hx hb dX10_push_29 (by decide) ?_
    refine lv_iadd hx hb dX10_push_30 ?_
    refine h_put15 X hw hS (nadd (a := d) (b := 1) rfl rfl) dX10_push_31 (fun H locs hw hS => ?_)
    refine lv_iconst (v := 1) hx hb dX10_push_34 (by decide) ?_
    exact m_zret (b := true) X hr hlk hw hS (Nat.zero_le _) (Nat.zero_le _) rfl ⟨(upd h (8 + d) a, d + 1), rfl, rfl, by clear hb hx hl hS hw hnm hlk hr X; (try simp_all [bI, Nat.pos_iff_ne_zero, p_push]); first | done | (rw [if_neg (fun z => absurd z.1 (by omega))]; done) | (rw [if_neg (fun z => absurd z.1 (by omega))]; trivial) | (intro z; omega)⟩ dX10_push_35
  · skip
    have c_1n : d = 8 := nneF (a := d) (b := 8) rfl rfl (by omega) (by omega) c_1
    refine lv_iconst (v := 0) hx hb dX10_push_9 (by decide) ?_
    exact m_zret (b := false) X hr hlk hw hS (Nat.zero_le _) (Nat.zero_le _) rfl ⟨(h, d), rfl, rfl, by clear hb hx hl hS hw hnm hlk hr X; (try simp_all [bI, Nat.pos_iff_ne_zero, p_push]); first | done | (rw [if_neg (fun z => absurd z.1 (by omega))]; done) | (rw [if_neg (fun z => absurd z.1 (by omega))]; trivial) | (intro z; omega)⟩ dX10_push_10
theorem v_X10_pop : mVm yX10_pop cX10_pop 2 (some .boolean) 1 := ⟨cd_X10_pop, im_X10_pop, se_X10_pop, ini_X10, by decide, by decide, by decide +kernel⟩
set_option maxHeartbeats 4000000 in
set_option maxRecDepth 100000 in
theorem k_X10_pop (Γ : mG) (l : Launch) (L : mI → Nat) (x : RS) (h : Nat → Int32) (d : Nat) (a : Int32) (hd : d ≤ 8)  : mMet Γ l yX10_pop cX10_pop 2 (some .boolean) { frames := 4, cells := 0, slots := 0, locals := 86 } [.ref (L (.inl 0)), .int a] L (rM Γ L (sH x (h, d))) (mQi Γ (mHand Γ L x (p_pop (h, d) a))) := by
  refine m_start (by decide) (Nat.le_of_ble_eq_true rfl) ?_
  intro p e s m args below meth c A ls X hr hlk hnm hw hS hl
  have hx := X.1.1
  have hb := X.1.2.1
  have hl : lv_has ls 2 [(0, .ref (L (.inl 0))), (1, .int a)] := hl
  refine lv_aload_n hx hb dX10_pop_0 rfl (lv_at hl 0 rfl) ?_
  refine h_get15 X hw dX10_pop_1 ?_
  refine lv_if_eq (tgt := 26) hx hb dX10_pop_4 (by decide) (fun c_1 => ?_) (fun c_1 => ?_)
  · skip
    have c_1n : d = 0 := neqT (a := d) (b := 0) rfl rfl (by omega) (by omega) c_1
    refine lv_iconst (v := 0) hx hb dX10_pop_26 (by decide) ?_
    exact m_zret (b := false) X hr hlk hw hS (Nat.zero_le _) (Nat.zero_le _) rfl ⟨(h, d), rfl, rfl, by clear hb hx hl hS hw hnm hlk hr X; (try simp_all [bI, Nat.pos_iff_ne_zero, p_pop]); first | done | (rw [if_neg (fun z => absurd z.1 (by omega))]; done) | (rw [if_neg (fun z => absurd z.1 (by omega))]; trivial) | (intro z; omega)⟩ dX10_pop_27
  · skip
    have c_1n : ¬ d = 0 := neqF (a := d) (b := 0) rfl rfl (by omega) (by omega) c_1
    refine lv_aload_n hx hb dX10_pop_7 rfl (lv_at hl 0 rfl) ?_
    refine r_get14 X hw dX10_pop_8 ?_
    refine lv_bipush (v := 7) hx hb dX10_pop_11 (by decide) ?_
    refine lv_aload_n hx hb dX10_pop_13 rfl (lv_at hl 0 rfl) ?_
    refine h_get15 X hw dX10_pop_14 ?_
    refine lv_iadd hx hb dX10_pop_17 ?_
    refine h_ald14 X hw (nadd (a := 7) (b := d) rfl rfl) (by omega) dX10_pop_18 ?_
    refine lv_iload_n hx hb dX10_pop_19 rfl (lv_at hl 1 rfl) ?_
    refine m_calli (m_runS (As := [.int (h (7 + d)), .int a]) (rest := []) X (k_X10_goes Γ l L (rM Γ L (sH x (h, d))) (h (7 + d)) a) s_X10_goes ml_X10_125 hw hS rfl hl.1 ⟨Nat.le_of_ble_eq_true rfl, Nat.le_of_ble_eq_true rfl⟩ (Nat.le_of_ble_eq_true rfl) ⟨Nat.le_of_ble_eq_true rfl, Nat.le_of_ble_eq_true rfl⟩ dX10_pop_20) hS (fun r_3 L1 M1 H locs hp_2 hw hS => ?_)
    obtain ⟨rfl, e1, e2⟩ := hp_2
    rw [e1, e2] at hw; clear e1 e2
    refine lv_if_ne (tgt := 28) hx hb dX10_pop_23 (by decide) (fun c_4 => ?_) (fun c_4 => ?_)
    · skip
      have c_4 := bI_t c_4
      refine lv_aload_n hx hb dX10_pop_28 rfl (lv_at hl 0 rfl) ?_
      refine lv_dup hx hb dX10_pop_29 rfl ?_
      refine h_get15 X hw dX10_pop_30 ?_
      refine lv_iconst (v := 1) hx hb dX10_pop_33 (by decide) ?_
      refine lv_isub hx hb dX10_pop_34 ?_
      refine h_put15 X hw hS (nsub (a := d) (b := 1) (by omega) rfl rfl) dX10_pop_35 (fun H locs hw hS => ?_)
      refine lv_iconst (v := 1) hx hb dX10_pop_38 (by decide) ?_
      exact m_zret (b := true) X hr hlk hw hS (Nat.zero_le _) (Nat.zero_le _) rfl ⟨(h, d - 1), rfl, rfl, by clear hb hx hl hS hw hnm hlk hr X; (try simp_all [bI, Nat.pos_iff_ne_zero, p_pop]); first | done | (rw [if_neg (fun z => absurd z.1 (by omega))]; done) | (rw [if_neg (fun z => absurd z.1 (by omega))]; trivial) | (intro z; omega)⟩ dX10_pop_39
    · skip
      have c_4 := bI_f c_4
      refine lv_iconst (v := 0) hx hb dX10_pop_26 (by decide) ?_
      exact m_zret (b := false) X hr hlk hw hS (Nat.zero_le _) (Nat.zero_le _) rfl ⟨(h, d), rfl, rfl, by clear hb hx hl hS hw hnm hlk hr X; (try simp_all [bI, Nat.pos_iff_ne_zero, p_pop]); first | done | (rw [if_neg (fun z => absurd z.1 (by omega))]; done) | (rw [if_neg (fun z => absurd z.1 (by omega))]; trivial) | (intro z; omega)⟩ dX10_pop_27
theorem v_X10_pushLong : mVm yX10_pushLong cX10_pushLong 1 (some .boolean) 0 := ⟨cd_X10_pushLong, im_X10_pushLong, se_X10_pushLong, ini_X10, by decide, by decide, by decide +kernel⟩
set_option maxHeartbeats 4000000 in
set_option maxRecDepth 100000 in
theorem k_X10_pushLong (Γ : mG) (l : Launch) (L : mI → Nat) (x : RS) (h : Nat → Int32) (d : Nat)  (hd : d ≤ 8)  : mMet Γ l yX10_pushLong cX10_pushLong 1 (some .boolean) { frames := 1, cells := 0, slots := 0, locals := 21 } [.ref (L (.inl 0))] L (rM Γ L (sH x (h, d))) (mQi Γ (mHand Γ L x (p_pushL (h, d)))) := by
  refine m_start (by decide) (Nat.le_of_ble_eq_true rfl) ?_
  intro p e s m args below meth c A ls X hr hlk hnm hw hS hl
  have hx := X.1.1
  have hb := X.1.2.1
  have hl : lv_has ls 1 [(0, .ref (L (.inl 0)))] := hl
  refine lv_aload_n hx hb dX10_pushLong_0 rfl (lv_at hl 0 rfl) ?_
  refine lv_iconst (v := 2) hx hb dX10_pushLong_1 (by decide) ?_
  refine m_calli (m_runV (i := .inl 0) (ci := 8) (As := [.int 2]) (rest := []) X (k_X10_push Γ l L x h d 2 (by omega)) v_X10_push ml_X10_148 hw hS rfl rfl rfl rfl hl.1 ⟨Nat.le_of_ble_eq_true rfl, Nat.le_of_ble_eq_true rfl⟩ (Nat.le_of_ble_eq_true rfl) ⟨Nat.le_of_ble_eq_true rfl, Nat.le_of_ble_eq_true rfl⟩ dX10_pushLong_2) hS (fun r_2 L1 M1 H locs hp_1 hw hS => ?_)
  obtain ⟨q_2, e1, e2, e3⟩ := hp_1
  rw [e1, e2] at hw; clear e1 e2
  rcases ho_2 : p_push (h, d) 2 with _ | ⟨h_2, d_2⟩
  · rw [ho_2] at e3; subst e3
    refine lv_if_eq (tgt := 20) hx hb dX10_pushLong_5 (by decide) (fun _ => ?_) (fun h => absurd rfl h)
    refine lv_iconst (v := 0) hx hb dX10_pushLong_20 (by decide) ?_
    exact m_zret (b := false) X hr hlk hw hS (Nat.zero_le _) (Nat.zero_le _) rfl ⟨(q_2.1, q_2.2), rfl, rfl, by clear hb hx hl hS hw hnm hlk hr X; (try simp_all [bI, Nat.pos_iff_ne_zero, p_pushL]); first | done | (rw [if_neg (fun z => absurd z.1 (by omega))]; done) | (rw [if_neg (fun z => absurd z.1 (by omega))]; trivial) | (intro z; omega)⟩ dX10_pushLong_21
  · rw [ho_2] at e3; obtain ⟨e3, e4⟩ := e3; subst e3; subst e4
    have hd_2 := p_push_le ho_2 (by omega)
    refine lv_if_eq (tgt := 20) hx hb dX10_pushLong_5 (by decide) (fun h => absurd h (by decide)) (fun _ => ?_)
    refine lv_aload_n hx hb dX10_pushLong_8 rfl (lv_at hl 0 rfl) ?_
    refine lv_iconst (v := 3) hx hb dX10_pushLong_9 (by decide) ?_
    refine m_calli (m_runV (i := .inl 0) (ci := 8) (As := [.int 3]) (rest := []) X (k_X10_push Γ l L x h_2 d_2 3 (by omega)) v_X10_push ml_X10_148 hw hS rfl rfl rfl rfl hl.1 ⟨Nat.le_of_ble_eq_true rfl, Nat.le_of_ble_eq_true rfl⟩ (Nat.le_of_ble_eq_true rfl) ⟨Nat.le_of_ble_eq_true rfl, Nat.le_of_ble_eq_true rfl⟩ dX10_pushLong_10) hS (fun r_6 L1 M1 H locs hp_5 hw hS => ?_)
    obtain ⟨q_6, e1, e2, e3⟩ := hp_5
    rw [e1, e2] at hw; clear e1 e2
    rcases ho_6 : p_push (h_2, d_2) 3 with _ | ⟨h_6, d_6⟩
    · rw [ho_6] at e3; subst e3
      refine lv_if_eq (tgt := 20) hx hb dX10_pushLong_13 (by decide) (fun _ => ?_) (fun h => absurd rfl h)
      refine lv_iconst (v := 0) hx hb dX10_pushLong_20 (by decide) ?_
      exact m_zret (b := false) X hr hlk hw hS (Nat.zero_le _) (Nat.zero_le _) rfl ⟨(q_6.1, q_6.2), rfl, rfl, by clear hb hx hl hS hw hnm hlk hr X; (try simp_all [bI, Nat.pos_iff_ne_zero, p_pushL]); first | done | (rw [if_neg (fun z => absurd z.1 (by omega))]; done) | (rw [if_neg (fun z => absurd z.1 (by omega))]; trivial) | (intro z; omega)⟩ dX10_pushLong_21
    · rw [ho_6] at e3; obtain ⟨e3, e4⟩ := e3; subst e3; subst e4
      have hd_6 := p_push_le ho_6 (by omega)
      refine lv_if_eq (tgt := 20) hx hb dX10_pushLong_13 (by decide) (fun h => absurd h (by decide)) (fun _ => ?_)
      refine lv_iconst (v := 1) hx hb dX10_pushLong_16 (by decide) ?_
      refine lv_goto (tgt := 21) hx hb dX10_pushLong_17 (by decide) ?_
      exact m_zret (b := true) X hr hlk hw hS (Nat.zero_le _) (Nat.zero_le _) rfl ⟨(h_6, d_6), rfl, rfl, by clear hb hx hl hS hw hnm hlk hr X; (try simp_all [bI, Nat.pos_iff_ne_zero, p_pushL]); first | done | (rw [if_neg (fun z => absurd z.1 (by omega))]; done) | (rw [if_neg (fun z => absurd z.1 (by omega))]; trivial) | (intro z; omega)⟩ dX10_pushLong_21
theorem v_X10_popLong : mVm yX10_popLong cX10_popLong 1 (some .boolean) 0 := ⟨cd_X10_popLong, im_X10_popLong, se_X10_popLong, ini_X10, by decide, by decide, by decide +kernel⟩
set_option maxHeartbeats 4000000 in
set_option maxRecDepth 100000 in
theorem k_X10_popLong (Γ : mG) (l : Launch) (L : mI → Nat) (x : RS) (h : Nat → Int32) (d : Nat)  (hd : d ≤ 8)  : mMet Γ l yX10_popLong cX10_popLong 1 (some .boolean) { frames := 0, cells := 0, slots := 0, locals := 0 } [.ref (L (.inl 0))] L (rM Γ L (sH x (h, d))) (mQi Γ (mHand Γ L x (p_popL (h, d)))) := by
  refine m_start (by decide) (Nat.le_of_ble_eq_true rfl) ?_
  intro p e s m args below meth c A ls X hr hlk hnm hw hS hl
  have hx := X.1.1
  have hb := X.1.2.1
  have hl : lv_has ls 1 [(0, .ref (L (.inl 0)))] := hl
  refine lv_aload_n hx hb dX10_popLong_0 rfl (lv_at hl 0 rfl) ?_
  refine h_get15 X hw dX10_popLong_1 ?_
  refine lv_iconst (v := 2) hx hb dX10_popLong_4 (by decide) ?_
  refine lv_icmp_lt (tgt := 40) hx hb dX10_popLong_5 (by decide) (fun c_1 => ?_) (fun c_1 => ?_)
  · skip
    have c_1n : d < 2 := nltT (a := d) (b := 2) rfl rfl (by omega) (by omega) c_1
    have c_1m : ¬ 2 ≤ d := by omega
    refine lv_iconst (v := 0) hx hb dX10_popLong_40 (by decide) ?_
    exact m_zret (b := false) X hr hlk hw hS (Nat.zero_le _) (Nat.zero_le _) rfl ⟨(h, d), rfl, rfl, by clear hb hx hl hS hw hnm hlk hr X; (try simp_all [bI, Nat.pos_iff_ne_zero, p_popL]); first | done | (rw [if_neg (fun z => absurd z.1 (by omega))]; done) | (rw [if_neg (fun z => absurd z.1 (by omega))]; trivial) | (intro z; omega)⟩ dX10_popLong_41
  · skip
    have c_1n : ¬ d < 2 := nltF (a := d) (b := 2) rfl rfl (by omega) (by omega) c_1
    have c_1m : 2 ≤ d := by omega
    refine lv_aload_n hx hb dX10_popLong_8 rfl (lv_at hl 0 rfl) ?_
    refine r_get14 X hw dX10_popLong_9 ?_
    refine lv_bipush (v := 7) hx hb dX10_popLong_12 (by decide) ?_
    refine lv_aload_n hx hb dX10_popLong_14 rfl (lv_at hl 0 rfl) ?_
    refine h_get15 X hw dX10_popLong_15 ?_
    refine lv_iadd hx hb dX10_popLong_18 ?_
    refine h_ald14 X hw (nadd (a := 7) (b := d) rfl rfl) (by omega) dX10_popLong_19 ?_
    refine lv_iconst (v := 3) hx hb dX10_popLong_20 (by decide) ?_
    refine lv_icmp_ne (tgt := 40) hx hb dX10_popLong_21 (by decide) (fun c_2 => ?_) (fun c_2 => ?_)
    · skip
      refine lv_iconst (v := 0) hx hb dX10_popLong_40 (by decide) ?_
      exact m_zret (b := false) X hr hlk hw hS (Nat.zero_le _) (Nat.zero_le _) rfl ⟨(h, d), rfl, rfl, by clear hb hx hl hS hw hnm hlk hr X; (try simp_all [bI, Nat.pos_iff_ne_zero, p_popL]); first | done | (rw [if_neg (fun z => absurd z.1 (by omega))]; done) | (rw [if_neg (fun z => absurd z.1 (by omega))]; trivial) | (intro z; omega)⟩ dX10_popLong_41
    · skip
      refine lv_aload_n hx hb dX10_popLong_24 rfl (lv_at hl 0 rfl) ?_
      refine r_get14 X hw dX10_popLong_25 ?_
      refine lv_bipush (v := 6) hx hb dX10_popLong_28 (by decide) ?_
      refine lv_aload_n hx hb dX10_popLong_30 rfl (lv_at hl 0 rfl) ?_
      refine h_get15 X hw dX10_popLong_31 ?_
      refine lv_iadd hx hb dX10_popLong_34 ?_
      refine h_ald14 X hw (nadd (a := 6) (b := d) rfl rfl) (by omega) dX10_popLong_35 ?_
      refine lv_iconst (v := 2) hx hb dX10_popLong_36 (by decide) ?_
      refine lv_icmp_eq (tgt := 42) hx hb dX10_popLong_37 (by decide) (fun c_3 => ?_) (fun c_3 => ?_)
      · skip
        refine lv_aload_n hx hb dX10_popLong_42 rfl (lv_at hl 0 rfl) ?_
        refine lv_dup hx hb dX10_popLong_43 rfl ?_
        refine h_get15 X hw dX10_popLong_44 ?_
        refine lv_iconst (v := 2) hx hb dX10_popLong_47 (by decide) ?_
        refine lv_isub hx hb dX10_popLong_48 ?_
        refine h_put15 X hw hS (nsub (a := d) (b := 2) (by omega) rfl rfl) dX10_popLong_49 (fun H locs hw hS => ?_)
        refine lv_iconst (v := 1) hx hb dX10_popLong_52 (by decide) ?_
        exact m_zret (b := true) X hr hlk hw hS (Nat.zero_le _) (Nat.zero_le _) rfl ⟨(h, d - 2), rfl, rfl, by clear hb hx hl hS hw hnm hlk hr X; (try simp_all [bI, Nat.pos_iff_ne_zero, p_popL]); first | done | (rw [if_neg (fun z => absurd z.1 (by omega))]; done) | (rw [if_neg (fun z => absurd z.1 (by omega))]; trivial) | (intro z; omega)⟩ dX10_popLong_53
      · skip
        refine lv_iconst (v := 0) hx hb dX10_popLong_40 (by decide) ?_
        exact m_zret (b := false) X hr hlk hw hS (Nat.zero_le _) (Nat.zero_le _) rfl ⟨(h, d), rfl, rfl, by clear hb hx hl hS hw hnm hlk hr X; (try simp_all [bI, Nat.pos_iff_ne_zero, p_popL]); first | done | (rw [if_neg (fun z => absurd z.1 (by omega))]; done) | (rw [if_neg (fun z => absurd z.1 (by omega))]; trivial) | (intro z; omega)⟩ dX10_popLong_41
theorem v_X10_isOneOnTop : mVm yX10_isOneOnTop cX10_isOneOnTop 2 (some .boolean) 1 := ⟨cd_X10_isOneOnTop, im_X10_isOneOnTop, se_X10_isOneOnTop, ini_X10, by decide, by decide, by decide +kernel⟩
set_option maxHeartbeats 4000000 in
set_option maxRecDepth 100000 in
theorem k_X10_isOneOnTop (Γ : mG) (l : Launch) (L : mI → Nat) (x : RS) (h : Nat → Int32) (d : Nat) (a : Int32) (n : Nat) (hn : a = nI n) (hn8 : n ≤ 1) (hd : d ≤ 8) : mMet Γ l yX10_isOneOnTop cX10_isOneOnTop 2 (some .boolean) { frames := 1, cells := 0, slots := 0, locals := 20 } [.ref (L (.inl 0)), .int a] L (rM Γ L (sH x (h, d))) (mQi Γ (fun r L1 M1 => r = bI (p_one (h, d) n) ∧ L1 = L ∧ M1 = rM Γ L (sH x (h, d)))) := by
  refine m_start (by decide) (Nat.le_of_ble_eq_true rfl) ?_
  intro p e s m args below meth c A ls X hr hlk hnm hw hS hl
  have hx := X.1.1
  have hb := X.1.2.1
  have hl : lv_has ls 2 [(0, .ref (L (.inl 0))), (1, .int a)] := hl
  refine lv_aload_n hx hb dX10_isOneOnTop_0 rfl (lv_at hl 0 rfl) ?_
  refine h_get15 X hw dX10_isOneOnTop_1 ?_
  refine lv_iload_n hx hb dX10_isOneOnTop_4 rfl (lv_at hl 1 rfl) ?_
  refine lv_icmp_le (tgt := 32) hx hb dX10_isOneOnTop_5 (by decide) (fun c_1 => ?_) (fun c_1 => ?_)
  · skip
    have c_1n : d ≤ n := nleT (a := d) (b := n) rfl hn (by omega) (by omega) c_1
    have c_1m : ¬ n < d := by omega
    refine lv_iconst (v := 0) hx hb dX10_isOneOnTop_32 (by decide) ?_
    exact m_zret (b := p_one (h, d) n) X hr hlk hw hS (Nat.zero_le _) (Nat.zero_le _) (by clear hb hx hl hS hw hnm hlk hr X; (try simp_all [bI, p_one, Nat.pos_iff_ne_zero]); first | done | (rw [if_neg (fun z => absurd z.1 (by omega))]; done) | (rw [if_neg (fun z => absurd z.1 (by omega))]; trivial) | (intro z; omega)) ⟨rfl, rfl, rfl⟩ dX10_isOneOnTop_33
  · skip
    have c_1n : ¬ d ≤ n := nleF (a := d) (b := n) rfl hn (by omega) (by omega) c_1
    have c_1m : n < d := by omega
    refine lv_aload_n hx hb dX10_isOneOnTop_8 rfl (lv_at hl 0 rfl) ?_
    refine r_get14 X hw dX10_isOneOnTop_9 ?_
    refine lv_bipush (v := 7) hx hb dX10_isOneOnTop_12 (by decide) ?_
    refine lv_aload_n hx hb dX10_isOneOnTop_14 rfl (lv_at hl 0 rfl) ?_
    refine h_get15 X hw dX10_isOneOnTop_15 ?_
    refine lv_iadd hx hb dX10_isOneOnTop_18 ?_
    refine lv_iload_n hx hb dX10_isOneOnTop_19 rfl (lv_at hl 1 rfl) ?_
    refine lv_isub hx hb dX10_isOneOnTop_20 ?_
    refine h_ald14 X hw (nsub (a := 7 + d) (b := n) (by omega) (nadd (a := 7) (b := d) rfl rfl) hn) (by omega) dX10_isOneOnTop_21 ?_
    refine m_calli (m_runS (As := [.int (h ((7 + d) - n))]) (rest := []) X (k_X10_isOnePlace Γ l L (rM Γ L (sH x (h, d))) (h ((7 + d) - n))) s_X10_isOnePlace ml_X10_151 hw hS rfl hl.1 ⟨Nat.le_of_ble_eq_true rfl, Nat.le_of_ble_eq_true rfl⟩ (Nat.le_of_ble_eq_true rfl) ⟨Nat.le_of_ble_eq_true rfl, Nat.le_of_ble_eq_true rfl⟩ dX10_isOneOnTop_22) hS (fun r_3 L1 M1 H locs hp_2 hw hS => ?_)
    obtain ⟨rfl, e1, e2⟩ := hp_2
    rw [e1, e2] at hw; clear e1 e2
    refine lv_if_eq (tgt := 32) hx hb dX10_isOneOnTop_25 (by decide) (fun c_4 => ?_) (fun c_4 => ?_)
    · skip
      have c_4 := bI_f c_4
      refine lv_iconst (v := 0) hx hb dX10_isOneOnTop_32 (by decide) ?_
      exact m_zret (b := p_one (h, d) n) X hr hlk hw hS (Nat.zero_le _) (Nat.zero_le _) (by clear hb hx hl hS hw hnm hlk hr X; (try simp_all [bI, p_one, Nat.pos_iff_ne_zero]); first | done | (rw [if_neg (fun z => absurd z.1 (by omega))]; done) | (rw [if_neg (fun z => absurd z.1 (by omega))]; trivial) | (intro z; omega)) ⟨rfl, rfl, rfl⟩ dX10_isOneOnTop_33
    · skip
      have c_4 := bI_t c_4
      refine lv_iconst (v := 1) hx hb dX10_isOneOnTop_28 (by decide) ?_
      refine lv_goto (tgt := 33) hx hb dX10_isOneOnTop_29 (by decide) ?_
      exact m_zret (b := p_one (h, d) n) X hr hlk hw hS (Nat.zero_le _) (Nat.zero_le _) (by clear hb hx hl hS hw hnm hlk hr X; (try simp_all [bI, p_one, Nat.pos_iff_ne_zero]); first | done | (rw [if_neg (fun z => absurd z.1 (by omega))]; done) | (rw [if_neg (fun z => absurd z.1 (by omega))]; trivial) | (intro z; omega)) ⟨rfl, rfl, rfl⟩ dX10_isOneOnTop_33
theorem v_X10_local : mVm yX10_local cX10_local 3 none 2 := ⟨cd_X10_local, im_X10_local, se_X10_local, ini_X10, by decide, by decide, by decide +kernel⟩
set_option maxHeartbeats 4000000 in
set_option maxRecDepth 100000 in
theorem k_X10_local (Γ : mG) (l : Launch) (L : mI → Nat) (x : RS) (h : Nat → Int32) (d : Nat) (a b : Int32) (n : Nat) (hn : a = nI n) (hn8 : n ≤ 7) : mMet Γ l yX10_local cX10_local 3 none { frames := 0, cells := 0, slots := 0, locals := 0 } [.ref (L (.inl 0)), .int a, .int b] L (rM Γ L (sH x (h, d))) (mQv Γ (fun L1 M1 => L1 = L ∧ M1 = rM Γ L (sH x (p_local h n b, d)))) := by
  refine m_start (by decide) (Nat.le_of_ble_eq_true rfl) ?_
  intro p e s m args below meth c A ls X hr hlk hnm hw hS hl
  have hx := X.1.1
  have hb := X.1.2.1
  have hl : lv_has ls 3 [(0, .ref (L (.inl 0))), (1, .int a), (2, .int b)] := hl
  have K72 : ∀ (g : Nat → Int32) (H : Heap) (locs : List Loc) (ls : Array Slot), p_local h n b = upd g n b → mW Γ.1 vwCl A L (rM Γ L (sH x (g, d))) H → va_S A s.heap H locs → lv_has ls 3 [(0, .ref (L (.inl 0))), (1, .int a), (2, .int b)] → W p l e { frames := 0, cells := 0, slots := 0, locals := 0 } s m args below meth c H locs 0 0 (MQ below (mQv Γ (fun L1 M1 => L1 = L ∧ M1 = rM Γ L (sH x (p_local h n b, d))) A) args s 0 0 A) (F0 m 72 ls []) := by
    intro g H locs ls he hw hS hl
    refine lv_aload_n hx hb dX10_local_72 rfl (lv_at hl 0 rfl) ?_
    refine r_get14 X hw dX10_local_73 ?_
    refine lv_iload_n hx hb dX10_local_76 rfl (lv_at hl 1 rfl) ?_
    refine lv_iload_n hx hb dX10_local_77 rfl (lv_at hl 2 rfl) ?_
    refine h_ast14 X hw hS hn (by omega) dX10_local_78 (fun H locs hw hS => ?_)
    exact m_vret X hr hlk hw hS (Nat.zero_le _) (Nat.zero_le _) ⟨rfl, by rw [he]⟩ dX10_local_79
  have K35 : ∀ (g : Nat → Int32) (H : Heap) (locs : List Loc) (ls : Array Slot), p_local h n b = upd (p_local2 g n) n b → mW Γ.1 vwCl A L (rM Γ L (sH x (g, d))) H → va_S A s.heap H locs → lv_has ls 3 [(0, .ref (L (.inl 0))), (1, .int a), (2, .int b)] → W p l e { frames := 0, cells := 0, slots := 0, locals := 0 } s m args below meth c H locs 0 0 (MQ below (mQv Γ (fun L1 M1 => L1 = L ∧ M1 = rM Γ L (sH x (p_local h n b, d))) A) args s 0 0 A) (F0 m 35 ls []) := by
    intro g H locs ls he hw hS hl
    refine lv_aload_n hx hb dX10_local_35 rfl (lv_at hl 0 rfl) ?_
    refine r_get14 X hw dX10_local_36 ?_
    refine lv_iload_n hx hb dX10_local_39 rfl (lv_at hl 1 rfl) ?_
    refine h_ald14 X hw hn (by omega) dX10_local_40 ?_
    refine lv_iconst (v := 2) hx hb dX10_local_41 (by decide) ?_
    refine lv_icmp_ne (tgt := 72) hx hb dX10_local_42 (by decide) (fun c_1 => ?_) (fun c_1 => ?_)
    · skip
      exact K72 _ H locs ls (by rw [he]; clear K72 hb hx hl hS hw hnm hlk hr X he; (try simp_all [p_local2, Nat.pos_iff_ne_zero]); first | done | (rw [if_neg (fun z => absurd z.1 (by omega))]; done) | (rw [if_neg (fun z => absurd z.1 (by omega))]; trivial) | (intro z; omega)) hw hS hl
    · skip
      refine lv_iload_n hx hb dX10_local_45 rfl (lv_at hl 1 rfl) ?_
      refine lv_bipush (v := 7) hx hb dX10_local_46 (by decide) ?_
      refine lv_icmp_ge (tgt := 72) hx hb dX10_local_48 (by decide) (fun c_2 => ?_) (fun c_2 => ?_)
      · skip
        have c_2n : n ≥ 7 := ngeT (a := n) (b := 7) hn rfl (by omega) (by omega) c_2
        have c_2m : ¬ n < 7 := by omega
        exact K72 _ H locs ls (by rw [he]; clear K72 hb hx hl hS hw hnm hlk hr X he; (try simp_all [p_local2, Nat.pos_iff_ne_zero]); first | done | (rw [if_neg (fun z => absurd z.1 (by omega))]; done) | (rw [if_neg (fun z => absurd z.1 (by omega))]; trivial) | (intro z; omega)) hw hS hl
      · skip
        have c_2n : ¬ n ≥ 7 := ngeF (a := n) (b := 7) hn rfl (by omega) (by omega) c_2
        have c_2m : n < 7 := by omega
        refine lv_aload_n hx hb dX10_local_51 rfl (lv_at hl 0 rfl) ?_
        refine r_get14 X hw dX10_local_52 ?_
        refine lv_iload_n hx hb dX10_local_55 rfl (lv_at hl 1 rfl) ?_
        refine lv_iconst (v := 1) hx hb dX10_local_56 (by decide) ?_
        refine lv_iadd hx hb dX10_local_57 ?_
        refine h_ald14 X hw (nadd (a := n) (b := 1) hn rfl) (by omega) dX10_local_58 ?_
        refine lv_iconst (v := 3) hx hb dX10_local_59 (by decide) ?_
        refine lv_icmp_ne (tgt := 72) hx hb dX10_local_60 (by decide) (fun c_3 => ?_) (fun c_3 => ?_)
        · skip
          exact K72 _ H locs ls (by rw [he]; clear K72 hb hx hl hS hw hnm hlk hr X he; (try simp_all [p_local2, Nat.pos_iff_ne_zero]); first | done | (rw [if_neg (fun z => absurd z.1 (by omega))]; done) | (rw [if_neg (fun z => absurd z.1 (by omega))]; trivial) | (intro z; omega)) hw hS hl
        · skip
          refine lv_aload_n hx hb dX10_local_63 rfl (lv_at hl 0 rfl) ?_
          refine r_get14 X hw dX10_local_64 ?_
          refine lv_iload_n hx hb dX10_local_67 rfl (lv_at hl 1 rfl) ?_
          refine lv_iconst (v := 1) hx hb dX10_local_68 (by decide) ?_
          refine lv_iadd hx hb dX10_local_69 ?_
          refine lv_iconst (v := 0) hx hb dX10_local_70 (by decide) ?_
          refine h_ast14 X hw hS (nadd (a := n) (b := 1) hn rfl) (by omega) dX10_local_71 (fun H locs hw hS => ?_)
          exact K72 _ H locs ls (by rw [he]; clear K72 hb hx hl hS hw hnm hlk hr X he; (try simp_all [p_local2, Nat.pos_iff_ne_zero]); first | done | (rw [if_neg (fun z => absurd z.1 (by omega))]; done) | (rw [if_neg (fun z => absurd z.1 (by omega))]; trivial) | (intro z; omega)) hw hS hl
  refine lv_aload_n hx hb dX10_local_0 rfl (lv_at hl 0 rfl) ?_
  refine r_get14 X hw dX10_local_1 ?_
  refine lv_iload_n hx hb dX10_local_4 rfl (lv_at hl 1 rfl) ?_
  refine h_ald14 X hw hn (by omega) dX10_local_5 ?_
  refine lv_iconst (v := 3) hx hb dX10_local_6 (by decide) ?_
  refine lv_icmp_ne (tgt := 35) hx hb dX10_local_7 (by decide) (fun c_4 => ?_) (fun c_4 => ?_)
  · skip
    exact K35 _ _ _ ls (by clear K35 K72 hb hx hl hS hw hnm hlk hr X; simp_all [p_local, p_local1, Nat.pos_iff_ne_zero]) hw hS hl
  · skip
    refine lv_iload_n hx hb dX10_local_10 rfl (lv_at hl 1 rfl) ?_
    refine lv_if_le (tgt := 35) hx hb dX10_local_11 (by decide) (fun c_5 => ?_) (fun c_5 => ?_)
    · skip
      have c_5n : n ≤ 0 := nleT (a := n) (b := 0) hn rfl (by omega) (by omega) c_5
      have c_5m : ¬ 0 < n := by omega
      exact K35 _ _ _ ls (by clear K35 K72 hb hx hl hS hw hnm hlk hr X; simp_all [p_local, p_local1, Nat.pos_iff_ne_zero]) hw hS hl
    · skip
      have c_5n : ¬ n ≤ 0 := nleF (a := n) (b := 0) hn rfl (by omega) (by omega) c_5
      have c_5m : 0 < n := by omega
      refine lv_aload_n hx hb dX10_local_14 rfl (lv_at hl 0 rfl) ?_
      refine r_get14 X hw dX10_local_15 ?_
      refine lv_iload_n hx hb dX10_local_18 rfl (lv_at hl 1 rfl) ?_
      refine lv_iconst (v := 1) hx hb dX10_local_19 (by decide) ?_
      refine lv_isub hx hb dX10_local_20 ?_
      refine h_ald14 X hw (nsub (a := n) (b := 1) (by omega) hn rfl) (by omega) dX10_local_21 ?_
      refine lv_iconst (v := 2) hx hb dX10_local_22 (by decide) ?_
      refine lv_icmp_ne (tgt := 35) hx hb dX10_local_23 (by decide) (fun c_6 => ?_) (fun c_6 => ?_)
      · skip
        exact K35 _ _ _ ls (by clear K35 K72 hb hx hl hS hw hnm hlk hr X; simp_all [p_local, p_local1, Nat.pos_iff_ne_zero]) hw hS hl
      · skip
        refine lv_aload_n hx hb dX10_local_26 rfl (lv_at hl 0 rfl) ?_
        refine r_get14 X hw dX10_local_27 ?_
        refine lv_iload_n hx hb dX10_local_30 rfl (lv_at hl 1 rfl) ?_
        refine lv_iconst (v := 1) hx hb dX10_local_31 (by decide) ?_
        refine lv_isub hx hb dX10_local_32 ?_
        refine lv_iconst (v := 0) hx hb dX10_local_33 (by decide) ?_
        refine h_ast14 X hw hS (nsub (a := n) (b := 1) (by omega) hn rfl) (by omega) dX10_local_34 (fun H locs hw hS => ?_)
        exact K35 _ _ _ ls (by clear K35 K72 hb hx hl hS hw hnm hlk hr X; simp_all [p_local, p_local1, Nat.pos_iff_ne_zero]) hw hS hl
