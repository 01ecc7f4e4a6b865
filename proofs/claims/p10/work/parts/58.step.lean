/-! THE CLASS'S STEP, by shape -/
theorem nat_p1 {k : Int32} (hk : ∃ j, j < 8 ∧ k = nI j) (h0 : ¬ k < 0) (h1 : k + 1 < 8) : ∃ j, j < 7 ∧ k = nI j := by
  obtain ⟨j, hj, rfl⟩ := hk
  have e : nI j + 1 = nI (j + 1) := (nI_succ j).symm
  rw [e] at h1
  have := nltT (a := j + 1) (b := 8) rfl rfl (by omega) (by omega) h1
  exact ⟨j, by omega, rfl⟩
theorem tS_id {x : CS} {a b k : Nat} : tS x a b k (x.1 a b k) = x := by
  unfold tS
  rw [upd_id, up3_id]
theorem tS_id2 {x : CS} : tS (tS x 0 7 1 (x.1 0 7 1)) 0 7 2 (x.1 0 7 2) = x := by
  rw [tS_id, tS_id]
theorem tS_sw {x : CS} {u v w : Int32} : tS (tS (tS x 0 7 1 u) 0 7 2 w) 0 7 1 v = tS (tS x 0 7 1 v) 0 7 2 w := by
  unfold tS
  show (up3 (up3 (up3 x.1 0 7 (upd (x.1 0 7) 1 u)) 0 7 (upd (up3 x.1 0 7 (upd (x.1 0 7) 1 u) 0 7) 2 w)) 0 7 (upd (up3 (up3 x.1 0 7 (upd (x.1 0 7) 1 u)) 0 7 (upd (up3 x.1 0 7 (upd (x.1 0 7) 1 u) 0 7) 2 w) 0 7) 1 v), x.2) = (up3 (up3 x.1 0 7 (upd (x.1 0 7) 1 v)) 0 7 (upd (up3 x.1 0 7 (upd (x.1 0 7) 1 v) 0 7) 2 w), x.2)
  rw [up3_up3, up3_up3, up3_up3, up3_self, up3_self, up3_self]
  have e : upd (upd (upd (x.1 0 7) 1 u) 2 w) 1 v = upd (upd (x.1 0 7) 1 v) 2 w := by
    funext j
    by_cases h1 : j = 1
    · subst h1; simp [upd]
    · simp [upd, h1]
  rw [e, up3_up3]
theorem v_X8_stores : mVm yX8_stores cX8_stores 3 (some .boolean) 1 := ⟨cd_X8_stores, im_X8_stores, se_X8_stores, ini_X8, by decide, by decide, by decide +kernel⟩
set_option maxHeartbeats 4000000 in
set_option maxRecDepth 100000 in
theorem k_X8_stores (Γ : mG) (l : Launch) (L : mI → Nat) (x : CS) (h : Nat → Int32) (d : Nat) (k : Int32) (hd : d ≤ 8) : mMet Γ l yX8_stores cX8_stores 3 (some .boolean) { frames := 2, cells := 0, slots := 0, locals := 41 } [.ref (L (nm 0 7)), .int k] L (cM Γ L (sP x 0 8 (h, d))) (mQi Γ (mPz Γ L x 0 8)) := by
  refine m_start (by decide) (Nat.le_of_ble_eq_true rfl) ?_
  intro p e s m args below meth c A ls X hr hlk hnm hw hS hl
  have hx := X.1.1
  have hb := X.1.2.1
  have hl : lv_has ls 3 [(0, .ref (L (nm 0 7))), (1, .int k)] := hl
  refine lv_aload_n hx hb dX8_stores_0 rfl (lv_at hl 0 rfl) ?_
  refine s_get (a := 0) (b := 7) (ci := 6) X hw rfl rfl gX8 0 (by decide) fl_X8_10 rfl rfl dX8_stores_1 ?_
  refine m_calli (m_runV (i := nm 0 8) (ci := 4) (As := []) (rest := []) X (k_X6_popOne Γ l L x 0 8 h d  pO8 (by omega)) v_X6_popOne ml_X8_98 hw hS (p_obj Γ L (c := sP x 0 8 (h, d)) pO8) rfl rfl rfl hl.1 ⟨Nat.le_of_ble_eq_true rfl, Nat.le_of_ble_eq_true rfl⟩ (Nat.le_of_ble_eq_true rfl) ⟨Nat.le_of_ble_eq_true rfl, Nat.le_of_ble_eq_true rfl⟩ dX8_stores_4) hS (fun r_1 L1 M1 H locs hp_1 hw hS => ?_)
  obtain ⟨⟨h_1, d_1⟩, hd_1, e1, e2⟩ := hp_1
  have hd_1 : d_1 ≤ 8 := hd_1
  rw [e1, e2] at hw; clear e1 e2
  refine lv_istore_n (lv' := [(2, .int r_1), (0, .ref (L (nm 0 7))), (1, .int k)]) hx hb dX8_stores_7 rfl hl (by decide) rfl (fun ls hl => ?_)
  refine lv_aload_n hx hb dX8_stores_8 rfl (lv_at hl 1 rfl) ?_
  refine s_get (a := 0) (b := 7) (ci := 6) X hw rfl rfl gX8 0 (by decide) fl_X8_10 rfl rfl dX8_stores_9 ?_
  refine lv_iload_n hx hb dX8_stores_12 rfl (lv_at hl 2 rfl) ?_
  refine lv_iload_n hx hb dX8_stores_13 rfl (lv_at hl 0 rfl) ?_
  refine m_callv (m_runV (i := nm 0 8) (ci := 4) (As := [.int k, .int r_1]) (rest := []) X (k_X6_write Γ l L x 0 8 h_1 d_1 k r_1 pO8 (by omega)) v_X6_write ml_X8_102 hw hS (p_obj Γ L (c := sP x 0 8 (h_1, d_1)) pO8) rfl rfl rfl hl.1 ⟨Nat.le_of_ble_eq_true rfl, Nat.le_of_ble_eq_true rfl⟩ (Nat.le_of_ble_eq_true rfl) ⟨Nat.le_of_ble_eq_true rfl, Nat.le_of_ble_eq_true rfl⟩ dX8_stores_14) hS (fun L1 M1 H locs hp_2 hw hS => ?_)
  obtain ⟨⟨h_2, d_2⟩, hd_2, e1, e2⟩ := hp_2
  have hd_2 : d_2 ≤ 8 := hd_2
  rw [e1, e2] at hw; clear e1 e2
  refine lv_iload_n hx hb dX8_stores_17 rfl (lv_at hl 0 rfl) ?_
  refine lv_if_eq (tgt := 25) hx hb dX8_stores_18 (by decide) (fun c_3 => ?_) (fun c_3 => ?_)
  · skip
    refine lv_iconst (v := 0) hx hb dX8_stores_25 (by decide) ?_
    exact m_zret (b := false) X hr hlk hw hS (Nat.le_of_ble_eq_true rfl) (Nat.le_of_ble_eq_true rfl) rfl ⟨⟨_, rfl⟩, (h_2, d_2), by show d_2 ≤ 8; omega, rfl, rfl⟩ dX8_stores_26
  · skip
    refine lv_iconst (v := 1) hx hb dX8_stores_21 (by decide) ?_
    refine lv_goto (tgt := 26) hx hb dX8_stores_22 (by decide) ?_
    exact m_zret (b := true) X hr hlk hw hS (Nat.le_of_ble_eq_true rfl) (Nat.le_of_ble_eq_true rfl) rfl ⟨⟨_, rfl⟩, (h_2, d_2), by show d_2 ≤ 8; omega, rfl, rfl⟩ dX8_stores_26
theorem v_X8_storesLong : mVm yX8_storesLong cX8_storesLong 2 (some .boolean) 1 := ⟨cd_X8_storesLong, im_X8_storesLong, se_X8_storesLong, ini_X8, by decide, by decide, by decide +kernel⟩
set_option maxHeartbeats 4000000 in
set_option maxRecDepth 100000 in
theorem k_X8_storesLong (Γ : mG) (l : Launch) (L : mI → Nat) (x : CS) (h : Nat → Int32) (d : Nat) (k : Int32) (hd : d ≤ 8) : mMet Γ l yX8_storesLong cX8_storesLong 2 (some .boolean) { frames := 2, cells := 0, slots := 0, locals := 45 } [.ref (L (nm 0 7)), .int k] L (cM Γ L (sP x 0 8 (h, d))) (mQi Γ (mPz Γ L x 0 8)) := by
  refine m_start (by decide) (Nat.le_of_ble_eq_true rfl) ?_
  intro p e s m args below meth c A ls X hr hlk hnm hw hS hl
  have hx := X.1.1
  have hb := X.1.2.1
  have hl : lv_has ls 2 [(0, .ref (L (nm 0 7))), (1, .int k)] := hl
  refine lv_iload_n hx hb dX8_storesLong_0 rfl (lv_at hl 1 rfl) ?_
  refine lv_iconst (v := 1) hx hb dX8_storesLong_1 (by decide) ?_
  refine lv_iadd hx hb dX8_storesLong_2 ?_
  refine lv_bipush (v := 8) hx hb dX8_storesLong_3 (by decide) ?_
  refine lv_icmp_ge (tgt := 18) hx hb dX8_storesLong_5 (by decide) (fun c_1 => ?_) (fun c_1 => ?_)
  · skip
    refine lv_iconst (v := 0) hx hb dX8_storesLong_18 (by decide) ?_
    exact m_zret (b := false) X hr hlk hw hS (Nat.le_of_ble_eq_true rfl) (Nat.le_of_ble_eq_true rfl) rfl ⟨⟨_, rfl⟩, (h, d), by show d ≤ 8; omega, rfl, rfl⟩ dX8_storesLong_19
  · skip
    refine lv_aload_n hx hb dX8_storesLong_8 rfl (lv_at hl 0 rfl) ?_
    refine s_get (a := 0) (b := 7) (ci := 6) X hw rfl rfl gX8 0 (by decide) fl_X8_10 rfl rfl dX8_storesLong_9 ?_
    refine m_calli (m_runV (i := nm 0 8) (ci := 4) (As := []) (rest := []) X (k_X6_popLong Γ l L x 0 8 h d  pO8 (by omega)) v_X6_popLong ml_X8_106 hw hS (p_obj Γ L (c := sP x 0 8 (h, d)) pO8) rfl rfl rfl hl.1 ⟨Nat.le_of_ble_eq_true rfl, Nat.le_of_ble_eq_true rfl⟩ (Nat.le_of_ble_eq_true rfl) ⟨Nat.le_of_ble_eq_true rfl, Nat.le_of_ble_eq_true rfl⟩ dX8_storesLong_12) hS (fun r_2 L1 M1 H locs hp_2 hw hS => ?_)
    obtain ⟨⟨t_2, rfl⟩, ⟨h_2, d_2⟩, hd_2, e1, e2⟩ := hp_2
    have hd_2 : d_2 ≤ 8 := hd_2
    rw [e1, e2] at hw; clear e1 e2
    refine lv_if_ne (tgt := 20) hx hb dX8_storesLong_15 (by decide) (fun c_3 => ?_) (fun c_3 => ?_)
    · skip
      have c_3 := bI_t c_3
      refine lv_aload_n hx hb dX8_storesLong_20 rfl (lv_at hl 0 rfl) ?_
      refine s_get (a := 0) (b := 7) (ci := 6) X hw rfl rfl gX8 0 (by decide) fl_X8_10 rfl rfl dX8_storesLong_21 ?_
      refine lv_iload_n hx hb dX8_storesLong_24 rfl (lv_at hl 1 rfl) ?_
      refine m_callv (m_runV (i := nm 0 8) (ci := 4) (As := [.int k]) (rest := []) X (k_X6_writeLong Γ l L x 0 8 h_2 d_2 k pO8 (by omega)) v_X6_writeLong ml_X8_109 hw hS (p_obj Γ L (c := sP x 0 8 (h_2, d_2)) pO8) rfl rfl rfl hl.1 ⟨Nat.le_of_ble_eq_true rfl, Nat.le_of_ble_eq_true rfl⟩ (Nat.le_of_ble_eq_true rfl) ⟨Nat.le_of_ble_eq_true rfl, Nat.le_of_ble_eq_true rfl⟩ dX8_storesLong_25) hS (fun L1 M1 H locs hp_4 hw hS => ?_)
      obtain ⟨⟨h_4, d_4⟩, hd_4, e1, e2⟩ := hp_4
      have hd_4 : d_4 ≤ 8 := hd_4
      rw [e1, e2] at hw; clear e1 e2
      refine lv_iconst (v := 1) hx hb dX8_storesLong_28 (by decide) ?_
      exact m_zret (b := true) X hr hlk hw hS (Nat.le_of_ble_eq_true rfl) (Nat.le_of_ble_eq_true rfl) rfl ⟨⟨_, rfl⟩, (h_4, d_4), by show d_4 ≤ 8; omega, rfl, rfl⟩ dX8_storesLong_29
    · skip
      have c_3 := bI_f c_3
      refine lv_iconst (v := 0) hx hb dX8_storesLong_18 (by decide) ?_
      exact m_zret (b := false) X hr hlk hw hS (Nat.le_of_ble_eq_true rfl) (Nat.le_of_ble_eq_true rfl) rfl ⟨⟨_, rfl⟩, (h_2, d_2), by show d_2 ≤ 8; omega, rfl, rfl⟩ dX8_storesLong_19
theorem v_X8_holdsLong : mVm yX8_holdsLong cX8_holdsLong 2 (some .boolean) 1 := ⟨cd_X8_holdsLong, im_X8_holdsLong, se_X8_holdsLong, ini_X8, by decide, by decide, by decide +kernel⟩
set_option maxHeartbeats 4000000 in
set_option maxRecDepth 100000 in
theorem k_X8_holdsLong (Γ : mG) (l : Launch) (L : mI → Nat) (x : CS) (h : Nat → Int32) (d : Nat) (k : Int32) (hd : d ≤ 8) (hk : ∃ j, j < 8 ∧ k = nI j) : mMet Γ l yX8_holdsLong cX8_holdsLong 2 (some .boolean) { frames := 0, cells := 0, slots := 0, locals := 0 } [.ref (L (nm 0 7)), .int k] L (cM Γ L (sP x 0 8 (h, d))) (mQi Γ (mPz Γ L x 0 8)) := by
  refine m_start (by decide) (Nat.le_of_ble_eq_true rfl) ?_
  intro p e s m args below meth c A ls X hr hlk hnm hw hS hl
  have hx := X.1.1
  have hb := X.1.2.1
  have hl : lv_has ls 2 [(0, .ref (L (nm 0 7))), (1, .int k)] := hl
  refine lv_iload_n hx hb dX8_holdsLong_0 rfl (lv_at hl 1 rfl) ?_
  refine lv_if_lt (tgt := 44) hx hb dX8_holdsLong_1 (by decide) (fun c_1 => ?_) (fun c_1 => ?_)
  · skip
    refine lv_iconst (v := 0) hx hb dX8_holdsLong_44 (by decide) ?_
    exact m_zret (b := false) X hr hlk hw hS (Nat.le_of_ble_eq_true rfl) (Nat.le_of_ble_eq_true rfl) rfl ⟨⟨_, rfl⟩, (h, d), by show d ≤ 8; omega, rfl, rfl⟩ dX8_holdsLong_45
  · skip
    refine lv_iload_n hx hb dX8_holdsLong_4 rfl (lv_at hl 1 rfl) ?_
    refine lv_iconst (v := 1) hx hb dX8_holdsLong_5 (by decide) ?_
    refine lv_iadd hx hb dX8_holdsLong_6 ?_
    refine lv_bipush (v := 8) hx hb dX8_holdsLong_7 (by decide) ?_
    refine lv_icmp_ge (tgt := 44) hx hb dX8_holdsLong_9 (by decide) (fun c_2 => ?_) (fun c_2 => ?_)
    · skip
      refine lv_iconst (v := 0) hx hb dX8_holdsLong_44 (by decide) ?_
      exact m_zret (b := false) X hr hlk hw hS (Nat.le_of_ble_eq_true rfl) (Nat.le_of_ble_eq_true rfl) rfl ⟨⟨_, rfl⟩, (h, d), by show d ≤ 8; omega, rfl, rfl⟩ dX8_holdsLong_45
    · skip
      obtain ⟨kn, hkn, ek⟩ := nat_p1 hk (by assumption) (Int32.not_le.mp (by assumption))
      refine lv_aload_n hx hb dX8_holdsLong_12 rfl (lv_at hl 0 rfl) ?_
      refine s_get (a := 0) (b := 7) (ci := 6) X hw rfl rfl gX8 0 (by decide) fl_X8_10 rfl rfl dX8_holdsLong_13 ?_
      refine p_getk X hw pO8 fl_X8_83 rfl dX8_holdsLong_16 ?_
      refine lv_iload_n hx hb dX8_holdsLong_19 rfl (lv_at hl 1 rfl) ?_
      refine p_ald (n := kn) X hw pO8 ek (by omega) dX8_holdsLong_20 ?_
      refine lv_iconst (v := 2) hx hb dX8_holdsLong_21 (by decide) ?_
      refine lv_icmp_ne (tgt := 44) hx hb dX8_holdsLong_22 (by decide) (fun c_3 => ?_) (fun c_3 => ?_)
      · skip
        refine lv_iconst (v := 0) hx hb dX8_holdsLong_44 (by decide) ?_
        exact m_zret (b := false) X hr hlk hw hS (Nat.le_of_ble_eq_true rfl) (Nat.le_of_ble_eq_true rfl) rfl ⟨⟨_, rfl⟩, (h, d), by show d ≤ 8; omega, rfl, rfl⟩ dX8_holdsLong_45
      · skip
        refine lv_aload_n hx hb dX8_holdsLong_25 rfl (lv_at hl 0 rfl) ?_
        refine s_get (a := 0) (b := 7) (ci := 6) X hw rfl rfl gX8 0 (by decide) fl_X8_10 rfl rfl dX8_holdsLong_26 ?_
        refine p_getk X hw pO8 fl_X8_83 rfl dX8_holdsLong_29 ?_
        refine lv_iload_n hx hb dX8_holdsLong_32 rfl (lv_at hl 1 rfl) ?_
        refine lv_iconst (v := 1) hx hb dX8_holdsLong_33 (by decide) ?_
        refine lv_iadd hx hb dX8_holdsLong_34 ?_
        refine p_ald (n := kn + 1) X hw pO8 (nadd (a := kn) (b := 1) ek rfl) (by omega) dX8_holdsLong_35 ?_
        refine lv_iconst (v := 3) hx hb dX8_holdsLong_36 (by decide) ?_
        refine lv_icmp_ne (tgt := 44) hx hb dX8_holdsLong_37 (by decide) (fun c_4 => ?_) (fun c_4 => ?_)
        · skip
          refine lv_iconst (v := 0) hx hb dX8_holdsLong_44 (by decide) ?_
          exact m_zret (b := false) X hr hlk hw hS (Nat.le_of_ble_eq_true rfl) (Nat.le_of_ble_eq_true rfl) rfl ⟨⟨_, rfl⟩, (h, d), by show d ≤ 8; omega, rfl, rfl⟩ dX8_holdsLong_45
        · skip
          refine lv_iconst (v := 1) hx hb dX8_holdsLong_40 (by decide) ?_
          refine lv_goto (tgt := 45) hx hb dX8_holdsLong_41 (by decide) ?_
          exact m_zret (b := true) X hr hlk hw hS (Nat.le_of_ble_eq_true rfl) (Nat.le_of_ble_eq_true rfl) rfl ⟨⟨_, rfl⟩, (h, d), by show d ≤ 8; omega, rfl, rfl⟩ dX8_holdsLong_45
theorem v_X8_moves : mVm yX8_moves cX8_moves 5 (some .boolean) 2 := ⟨cd_X8_moves, im_X8_moves, se_X8_moves, ini_X8, by decide, by decide, by decide +kernel⟩
set_option maxHeartbeats 4000000 in
set_option maxRecDepth 100000 in
theorem k_X8_moves (Γ : mG) (l : Launch) (L : mI → Nat) (x : CS) (h : Nat → Int32) (d : Nat) (o : Int32) (v : Int64) (hd : d ≤ 8) : mMet Γ l yX8_moves cX8_moves 5 (some .boolean) { frames := 3, cells := 0, slots := 0, locals := 66 } [.ref (L (nm 0 7)), .int o, .long v] L (cM Γ L (sP x 0 8 (h, d))) (mQi Γ (mPz Γ L x 0 8)) := by
  refine m_start (by decide) (Nat.le_of_ble_eq_true rfl) ?_
  intro p e s m args below meth c A ls X hr hlk hnm hw hS hl
  have hx := X.1.1
  have hb := X.1.2.1
  have hl : lv_has ls 5 [(0, .ref (L (nm 0 7))), (1, .int o), (2, .long v)] := hl
  refine lv_iload_n hx hb dX8_moves_0 rfl (lv_at hl 1 rfl) ?_
  by_cases c_1 : o.toInt < 0 ∨ 2 < o.toInt
  · refine lv_tableOut (tgt := 54) hx hb dX8_moves_1 c_1 (by decide) ?_
    refine lv_lload_n hx hb dX8_moves_54 rfl (lv_at hl 2 rfl) ?_
    refine lv_lconst (v := 0) hx hb dX8_moves_55 (by decide) ?_
    refine m_lcmp_lt (tgt := 68) hx hb dX8_moves_56 dX8_moves_57 (by decide) (fun c_2 => ?_) (fun c_2 => ?_)
    · skip
      refine lv_iconst (v := 0) hx hb dX8_moves_68 (by decide) ?_
      exact m_zret (b := false) X hr hlk hw hS (Nat.le_of_ble_eq_true rfl) (Nat.le_of_ble_eq_true rfl) rfl ⟨⟨_, rfl⟩, (h, d), by show d ≤ 8; omega, rfl, rfl⟩ dX8_moves_69
    · skip
      refine lv_lload_n hx hb dX8_moves_60 rfl (lv_at hl 2 rfl) ?_
      refine lv_ldc2 (v := (8)) hx hb X.1.2.2.2.1 (X.1.2.2.2.2 _ kl_X8_81) dX8_moves_61 ?_
      refine m_lcmp_lt (tgt := 70) hx hb dX8_moves_64 dX8_moves_65 (by decide) (fun c_3 => ?_) (fun c_3 => ?_)
      · skip
        obtain ⟨an, han, ean, eav⟩ := l_nat (n := 8) (by decide) (by assumption) (by assumption)
        refine lv_lload_n hx hb dX8_moves_70 rfl (lv_at hl 2 rfl) ?_
        refine lv_l2i (v := v.toInt32) hx hb dX8_moves_71 rfl ?_
        refine lv_istore (lv' := [(4, .int v.toInt32), (0, .ref (L (nm 0 7))), (1, .int o), (2, .long v)]) hx hb dX8_moves_72 hl (by decide) rfl (fun ls hl => ?_)
        refine lv_iload_n hx hb dX8_moves_74 rfl (lv_at hl 2 rfl) ?_
        by_cases c_4 : o.toInt < 3 ∨ 5 < o.toInt
        · refine lv_tableOut (tgt := 174) hx hb dX8_moves_75 c_4 (by decide) ?_
          refine lv_aload_n hx hb dX8_moves_174 rfl (lv_at hl 1 rfl) ?_
          refine lv_iload hx hb dX8_moves_175 (lv_at hl 0 rfl) ?_
          refine m_calli (m_runV (i := nm 0 7) (ci := 6) (As := [.int v.toInt32]) (rest := []) X (k_X8_storesLong Γ l L x h d v.toInt32 (by omega)) v_X8_storesLong ml_X8_95 hw hS rfl rfl rfl rfl hl.1 ⟨Nat.le_of_ble_eq_true rfl, Nat.le_of_ble_eq_true rfl⟩ (Nat.le_of_ble_eq_true rfl) ⟨Nat.le_of_ble_eq_true rfl, Nat.le_of_ble_eq_true rfl⟩ dX8_moves_177) hS (fun r_5 L1 M1 H locs hp_5 hw hS => ?_)
          obtain ⟨⟨t_5, rfl⟩, ⟨h_5, d_5⟩, hd_5, e1, e2⟩ := hp_5
          have hd_5 : d_5 ≤ 8 := hd_5
          rw [e1, e2] at hw; clear e1 e2
          exact m_zret (b := t_5) X hr hlk hw hS (Nat.le_of_ble_eq_true rfl) (Nat.le_of_ble_eq_true rfl) rfl ⟨⟨_, rfl⟩, (h_5, d_5), by show d_5 ≤ 8; omega, rfl, rfl⟩ dX8_moves_180
        · have c_4b : o.toInt = 3 ∨ o.toInt = 4 ∨ o.toInt = 5 := by omega
          rcases c_4b with c_4v | c_4v | c_4v
          · have c_4e : o = 3 := Int32.toInt_inj.mp c_4v
            refine lv_tableIn (off := 25) (tgt := 100) hx hb dX8_moves_75 (by omega) (by omega) (by rw [c_4v]; rfl) (by decide) ?_
            refine lv_aload_n hx hb dX8_moves_100 rfl (lv_at hl 1 rfl) ?_
            refine s_get (a := 0) (b := 7) (ci := 6) X hw rfl rfl gX8 0 (by decide) fl_X8_10 rfl rfl dX8_moves_101 ?_
            refine p_getk X hw pO8 fl_X8_83 rfl dX8_moves_104 ?_
            refine lv_iload hx hb dX8_moves_107 (lv_at hl 0 rfl) ?_
            refine p_ald (n := an) X hw pO8 ean (by omega) dX8_moves_109 ?_
            refine m_calli (m_runS (As := [.int (h an)]) (rest := []) X (k_X3_isOnePlace Γ l L (cM Γ L (sP x 0 8 (h, d))) (h an)) s_X3_isOnePlace ml_X8_86 hw hS rfl hl.1 ⟨Nat.le_of_ble_eq_true rfl, Nat.le_of_ble_eq_true rfl⟩ (Nat.le_of_ble_eq_true rfl) ⟨Nat.le_of_ble_eq_true rfl, Nat.le_of_ble_eq_true rfl⟩ dX8_moves_110) hS (fun r_6 L1 M1 H locs hp_6 hw hS => ?_)
            obtain ⟨rfl, e1, e2⟩ := hp_6
            rw [e1, e2] at hw; clear e1 e2
            refine lv_if_eq (tgt := 140) hx hb dX8_moves_113 (by decide) (fun c_7 => ?_) (fun c_7 => ?_)
            · skip
              have c_7 := bI_f c_7
              refine lv_iconst (v := 0) hx hb dX8_moves_140 (by decide) ?_
              exact m_zret (b := false) X hr hlk hw hS (Nat.le_of_ble_eq_true rfl) (Nat.le_of_ble_eq_true rfl) rfl ⟨⟨_, rfl⟩, (h, d), by show d ≤ 8; omega, rfl, rfl⟩ dX8_moves_141
            · skip
              have c_7 := bI_t c_7
              refine lv_aload_n hx hb dX8_moves_116 rfl (lv_at hl 1 rfl) ?_
              refine s_get (a := 0) (b := 7) (ci := 6) X hw rfl rfl gX8 0 (by decide) fl_X8_10 rfl rfl dX8_moves_117 ?_
              refine lv_aload_n hx hb dX8_moves_120 rfl (lv_at hl 1 rfl) ?_
              refine s_get (a := 0) (b := 7) (ci := 6) X hw rfl rfl gX8 0 (by decide) fl_X8_10 rfl rfl dX8_moves_121 ?_
              refine p_getk X hw pO8 fl_X8_83 rfl dX8_moves_124 ?_
              refine lv_iload hx hb dX8_moves_127 (lv_at hl 0 rfl) ?_
              refine p_ald (n := an) X hw pO8 ean (by omega) dX8_moves_129 ?_
              refine m_calli (m_runV (i := nm 0 8) (ci := 4) (As := [.int (h an)]) (rest := []) X (k_X6_push Γ l L x 0 8 h d (h an) pO8 (by omega)) v_X6_push ml_X8_74 hw hS (p_obj Γ L (c := sP x 0 8 (h, d)) pO8) rfl rfl rfl hl.1 ⟨Nat.le_of_ble_eq_true rfl, Nat.le_of_ble_eq_true rfl⟩ (Nat.le_of_ble_eq_true rfl) ⟨Nat.le_of_ble_eq_true rfl, Nat.le_of_ble_eq_true rfl⟩ dX8_moves_130) hS (fun r_8 L1 M1 H locs hp_8 hw hS => ?_)
              obtain ⟨⟨t_8, rfl⟩, ⟨h_8, d_8⟩, hd_8, e1, e2⟩ := hp_8
              have hd_8 : d_8 ≤ 8 := hd_8
              rw [e1, e2] at hw; clear e1 e2
              refine lv_if_eq (tgt := 140) hx hb dX8_moves_133 (by decide) (fun c_9 => ?_) (fun c_9 => ?_)
              · skip
                have c_9 := bI_f c_9
                refine lv_iconst (v := 0) hx hb dX8_moves_140 (by decide) ?_
                exact m_zret (b := false) X hr hlk hw hS (Nat.le_of_ble_eq_true rfl) (Nat.le_of_ble_eq_true rfl) rfl ⟨⟨_, rfl⟩, (h_8, d_8), by show d_8 ≤ 8; omega, rfl, rfl⟩ dX8_moves_141
              · skip
                have c_9 := bI_t c_9
                refine lv_iconst (v := 1) hx hb dX8_moves_136 (by decide) ?_
                refine lv_goto (tgt := 141) hx hb dX8_moves_137 (by decide) ?_
                exact m_zret (b := true) X hr hlk hw hS (Nat.le_of_ble_eq_true rfl) (Nat.le_of_ble_eq_true rfl) rfl ⟨⟨_, rfl⟩, (h_8, d_8), by show d_8 ≤ 8; omega, rfl, rfl⟩ dX8_moves_141
          · have c_4e : o = 4 := Int32.toInt_inj.mp c_4v
            refine lv_tableIn (off := 67) (tgt := 142) hx hb dX8_moves_75 (by omega) (by omega) (by rw [c_4v]; rfl) (by decide) ?_
            refine lv_aload_n hx hb dX8_moves_142 rfl (lv_at hl 1 rfl) ?_
            refine lv_iload hx hb dX8_moves_143 (lv_at hl 0 rfl) ?_
            refine m_calli (m_runV (i := nm 0 7) (ci := 6) (As := [.int v.toInt32]) (rest := []) X (k_X8_stores Γ l L x h d v.toInt32 (by omega)) v_X8_stores ml_X8_89 hw hS rfl rfl rfl rfl hl.1 ⟨Nat.le_of_ble_eq_true rfl, Nat.le_of_ble_eq_true rfl⟩ (Nat.le_of_ble_eq_true rfl) ⟨Nat.le_of_ble_eq_true rfl, Nat.le_of_ble_eq_true rfl⟩ dX8_moves_145) hS (fun r_10 L1 M1 H locs hp_10 hw hS => ?_)
            obtain ⟨⟨t_10, rfl⟩, ⟨h_10, d_10⟩, hd_10, e1, e2⟩ := hp_10
            have hd_10 : d_10 ≤ 8 := hd_10
            rw [e1, e2] at hw; clear e1 e2
            exact m_zret (b := t_10) X hr hlk hw hS (Nat.le_of_ble_eq_true rfl) (Nat.le_of_ble_eq_true rfl) rfl ⟨⟨_, rfl⟩, (h_10, d_10), by show d_10 ≤ 8; omega, rfl, rfl⟩ dX8_moves_148
          · have c_4e : o = 5 := Int32.toInt_inj.mp c_4v
            refine lv_tableIn (off := 74) (tgt := 149) hx hb dX8_moves_75 (by omega) (by omega) (by rw [c_4v]; rfl) (by decide) ?_
            refine lv_aload_n hx hb dX8_moves_149 rfl (lv_at hl 1 rfl) ?_
            refine lv_iload hx hb dX8_moves_150 (lv_at hl 0 rfl) ?_
            refine m_calli (m_runV (i := nm 0 7) (ci := 6) (As := [.int v.toInt32]) (rest := []) X (k_X8_holdsLong Γ l L x h d v.toInt32 (by omega) ⟨an, by omega, ean⟩) v_X8_holdsLong ml_X8_92 hw hS rfl rfl rfl rfl hl.1 ⟨Nat.le_of_ble_eq_true rfl, Nat.le_of_ble_eq_true rfl⟩ (Nat.le_of_ble_eq_true rfl) ⟨Nat.le_of_ble_eq_true rfl, Nat.le_of_ble_eq_true rfl⟩ dX8_moves_152) hS (fun r_11 L1 M1 H locs hp_11 hw hS => ?_)
            obtain ⟨⟨t_11, rfl⟩, ⟨h_11, d_11⟩, hd_11, e1, e2⟩ := hp_11
            have hd_11 : d_11 ≤ 8 := hd_11
            rw [e1, e2] at hw; clear e1 e2
            refine lv_if_eq (tgt := 172) hx hb dX8_moves_155 (by decide) (fun c_12 => ?_) (fun c_12 => ?_)
            · skip
              have c_12 := bI_f c_12
              refine lv_iconst (v := 0) hx hb dX8_moves_172 (by decide) ?_
              exact m_zret (b := false) X hr hlk hw hS (Nat.le_of_ble_eq_true rfl) (Nat.le_of_ble_eq_true rfl) rfl ⟨⟨_, rfl⟩, (h_11, d_11), by show d_11 ≤ 8; omega, rfl, rfl⟩ dX8_moves_173
            · skip
              have c_12 := bI_t c_12
              refine lv_aload_n hx hb dX8_moves_158 rfl (lv_at hl 1 rfl) ?_
              refine s_get (a := 0) (b := 7) (ci := 6) X hw rfl rfl gX8 0 (by decide) fl_X8_10 rfl rfl dX8_moves_159 ?_
              refine m_calli (m_runV (i := nm 0 8) (ci := 4) (As := []) (rest := []) X (k_X6_pushLong Γ l L x 0 8 h_11 d_11  pO8 (by omega)) v_X6_pushLong ml_X8_77 hw hS (p_obj Γ L (c := sP x 0 8 (h_11, d_11)) pO8) rfl rfl rfl hl.1 ⟨Nat.le_of_ble_eq_true rfl, Nat.le_of_ble_eq_true rfl⟩ (Nat.le_of_ble_eq_true rfl) ⟨Nat.le_of_ble_eq_true rfl, Nat.le_of_ble_eq_true rfl⟩ dX8_moves_162) hS (fun r_13 L1 M1 H locs hp_13 hw hS => ?_)
              obtain ⟨⟨t_13, rfl⟩, ⟨h_13, d_13⟩, hd_13, e1, e2⟩ := hp_13
              have hd_13 : d_13 ≤ 8 := hd_13
              rw [e1, e2] at hw; clear e1 e2
              refine lv_if_eq (tgt := 172) hx hb dX8_moves_165 (by decide) (fun c_14 => ?_) (fun c_14 => ?_)
              · skip
                have c_14 := bI_f c_14
                refine lv_iconst (v := 0) hx hb dX8_moves_172 (by decide) ?_
                exact m_zret (b := false) X hr hlk hw hS (Nat.le_of_ble_eq_true rfl) (Nat.le_of_ble_eq_true rfl) rfl ⟨⟨_, rfl⟩, (h_13, d_13), by show d_13 ≤ 8; omega, rfl, rfl⟩ dX8_moves_173
              · skip
                have c_14 := bI_t c_14
                refine lv_iconst (v := 1) hx hb dX8_moves_168 (by decide) ?_
                refine lv_goto (tgt := 173) hx hb dX8_moves_169 (by decide) ?_
                exact m_zret (b := true) X hr hlk hw hS (Nat.le_of_ble_eq_true rfl) (Nat.le_of_ble_eq_true rfl) rfl ⟨⟨_, rfl⟩, (h_13, d_13), by show d_13 ≤ 8; omega, rfl, rfl⟩ dX8_moves_173
      · skip
        refine lv_iconst (v := 0) hx hb dX8_moves_68 (by decide) ?_
        exact m_zret (b := false) X hr hlk hw hS (Nat.le_of_ble_eq_true rfl) (Nat.le_of_ble_eq_true rfl) rfl ⟨⟨_, rfl⟩, (h, d), by show d ≤ 8; omega, rfl, rfl⟩ dX8_moves_69
  · have c_1b : o.toInt = 0 ∨ o.toInt = 1 ∨ o.toInt = 2 := by omega
    rcases c_1b with c_1v | c_1v | c_1v
    · have c_1e : o = 0 := Int32.toInt_inj.mp c_1v
      refine lv_tableIn (off := 27) (tgt := 28) hx hb dX8_moves_1 (by omega) (by omega) (by rw [c_1v]; rfl) (by decide) ?_
      refine lv_aload_n hx hb dX8_moves_28 rfl (lv_at hl 0 rfl) ?_
      refine s_get (a := 0) (b := 7) (ci := 6) X hw rfl rfl gX8 0 (by decide) fl_X8_10 rfl rfl dX8_moves_29 ?_
      refine lv_iconst (v := 1) hx hb dX8_moves_32 (by decide) ?_
      refine m_calli (m_runV (i := nm 0 8) (ci := 4) (As := [.int 1]) (rest := []) X (k_X6_push Γ l L x 0 8 h d 1 pO8 (by omega)) v_X6_push ml_X8_74 hw hS (p_obj Γ L (c := sP x 0 8 (h, d)) pO8) rfl rfl rfl hl.1 ⟨Nat.le_of_ble_eq_true rfl, Nat.le_of_ble_eq_true rfl⟩ (Nat.le_of_ble_eq_true rfl) ⟨Nat.le_of_ble_eq_true rfl, Nat.le_of_ble_eq_true rfl⟩ dX8_moves_33) hS (fun r_15 L1 M1 H locs hp_15 hw hS => ?_)
      obtain ⟨⟨t_15, rfl⟩, ⟨h_15, d_15⟩, hd_15, e1, e2⟩ := hp_15
      have hd_15 : d_15 ≤ 8 := hd_15
      rw [e1, e2] at hw; clear e1 e2
      exact m_zret (b := t_15) X hr hlk hw hS (Nat.le_of_ble_eq_true rfl) (Nat.le_of_ble_eq_true rfl) rfl ⟨⟨_, rfl⟩, (h_15, d_15), by show d_15 ≤ 8; omega, rfl, rfl⟩ dX8_moves_36
    · have c_1e : o = 1 := Int32.toInt_inj.mp c_1v
      refine lv_tableIn (off := 36) (tgt := 37) hx hb dX8_moves_1 (by omega) (by omega) (by rw [c_1v]; rfl) (by decide) ?_
      refine lv_aload_n hx hb dX8_moves_37 rfl (lv_at hl 0 rfl) ?_
      refine s_get (a := 0) (b := 7) (ci := 6) X hw rfl rfl gX8 0 (by decide) fl_X8_10 rfl rfl dX8_moves_38 ?_
      refine m_calli (m_runV (i := nm 0 8) (ci := 4) (As := []) (rest := []) X (k_X6_pushLong Γ l L x 0 8 h d  pO8 (by omega)) v_X6_pushLong ml_X8_77 hw hS (p_obj Γ L (c := sP x 0 8 (h, d)) pO8) rfl rfl rfl hl.1 ⟨Nat.le_of_ble_eq_true rfl, Nat.le_of_ble_eq_true rfl⟩ (Nat.le_of_ble_eq_true rfl) ⟨Nat.le_of_ble_eq_true rfl, Nat.le_of_ble_eq_true rfl⟩ dX8_moves_41) hS (fun r_16 L1 M1 H locs hp_16 hw hS => ?_)
      obtain ⟨⟨t_16, rfl⟩, ⟨h_16, d_16⟩, hd_16, e1, e2⟩ := hp_16
      have hd_16 : d_16 ≤ 8 := hd_16
      rw [e1, e2] at hw; clear e1 e2
      exact m_zret (b := t_16) X hr hlk hw hS (Nat.le_of_ble_eq_true rfl) (Nat.le_of_ble_eq_true rfl) rfl ⟨⟨_, rfl⟩, (h_16, d_16), by show d_16 ≤ 8; omega, rfl, rfl⟩ dX8_moves_44
    · have c_1e : o = 2 := Int32.toInt_inj.mp c_1v
      refine lv_tableIn (off := 44) (tgt := 45) hx hb dX8_moves_1 (by omega) (by omega) (by rw [c_1v]; rfl) (by decide) ?_
      refine lv_aload_n hx hb dX8_moves_45 rfl (lv_at hl 0 rfl) ?_
      refine s_get (a := 0) (b := 7) (ci := 6) X hw rfl rfl gX8 0 (by decide) fl_X8_10 rfl rfl dX8_moves_46 ?_
      refine lv_iconst (v := 4) hx hb dX8_moves_49 (by decide) ?_
      refine m_calli (m_runV (i := nm 0 8) (ci := 4) (As := [.int 4]) (rest := []) X (k_X6_push Γ l L x 0 8 h d 4 pO8 (by omega)) v_X6_push ml_X8_74 hw hS (p_obj Γ L (c := sP x 0 8 (h, d)) pO8) rfl rfl rfl hl.1 ⟨Nat.le_of_ble_eq_true rfl, Nat.le_of_ble_eq_true rfl⟩ (Nat.le_of_ble_eq_true rfl) ⟨Nat.le_of_ble_eq_true rfl, Nat.le_of_ble_eq_true rfl⟩ dX8_moves_50) hS (fun r_17 L1 M1 H locs hp_17 hw hS => ?_)
      obtain ⟨⟨t_17, rfl⟩, ⟨h_17, d_17⟩, hd_17, e1, e2⟩ := hp_17
      have hd_17 : d_17 ≤ 8 := hd_17
      rw [e1, e2] at hw; clear e1 e2
      exact m_zret (b := t_17) X hr hlk hw hS (Nat.le_of_ble_eq_true rfl) (Nat.le_of_ble_eq_true rfl) rfl ⟨⟨_, rfl⟩, (h_17, d_17), by show d_17 ≤ 8; omega, rfl, rfl⟩ dX8_moves_53
theorem v_X8_reckons : mVm yX8_reckons cX8_reckons 5 (some .boolean) 2 := ⟨cd_X8_reckons, im_X8_reckons, se_X8_reckons, ini_X8, by decide, by decide, by decide +kernel⟩
set_option maxHeartbeats 4000000 in
set_option maxRecDepth 100000 in
theorem k_X8_reckons (Γ : mG) (l : Launch) (L : mI → Nat) (x : CS) (h : Nat → Int32) (d : Nat) (o : Int32) (v : Int64) (hd : d ≤ 8) : mMet Γ l yX8_reckons cX8_reckons 5 (some .boolean) { frames := 3, cells := 0, slots := 0, locals := 63 } [.ref (L (nm 0 7)), .int o, .long v] L (cM Γ L (sP x 0 8 (h, d))) (mQi Γ (mPz Γ L x 0 8)) := by
  refine m_start (by decide) (Nat.le_of_ble_eq_true rfl) ?_
  intro p e s m args below meth c A ls X hr hlk hnm hw hS hl
  have hx := X.1.1
  have hb := X.1.2.1
  have hl : lv_has ls 5 [(0, .ref (L (nm 0 7))), (1, .int o), (2, .long v)] := hl
  refine lv_lload_n hx hb dX8_reckons_0 rfl (lv_at hl 2 rfl) ?_
  refine lv_lconst (v := 0) hx hb dX8_reckons_1 (by decide) ?_
  refine m_lcmp_lt (tgt := 18) hx hb dX8_reckons_2 dX8_reckons_3 (by decide) (fun c_1 => ?_) (fun c_1 => ?_)
  · skip
    refine lv_iconst (v := 0) hx hb dX8_reckons_18 (by decide) ?_
    refine lv_istore (lv' := [(4, .int 0), (0, .ref (L (nm 0 7))), (1, .int o), (2, .long v)]) hx hb dX8_reckons_19 hl (by decide) rfl (fun ls hl => ?_)
    refine lv_iload_n hx hb dX8_reckons_21 rfl (lv_at hl 2 rfl) ?_
    by_cases c_2 : o.toInt < 7 ∨ 10 < o.toInt
    · refine lv_tableOut (tgt := 191) hx hb dX8_reckons_22 c_2 (by decide) ?_
      refine lv_aload_n hx hb dX8_reckons_191 rfl (lv_at hl 1 rfl) ?_
      refine s_get (a := 0) (b := 7) (ci := 6) X hw rfl rfl gX8 0 (by decide) fl_X8_10 rfl rfl dX8_reckons_192 ?_
      refine m_calli (m_runV (i := nm 0 8) (ci := 4) (As := []) (rest := []) X (k_X6_popLong Γ l L x 0 8 h d  pO8 (by omega)) v_X6_popLong ml_X8_106 hw hS (p_obj Γ L (c := sP x 0 8 (h, d)) pO8) rfl rfl rfl hl.1 ⟨Nat.le_of_ble_eq_true rfl, Nat.le_of_ble_eq_true rfl⟩ (Nat.le_of_ble_eq_true rfl) ⟨Nat.le_of_ble_eq_true rfl, Nat.le_of_ble_eq_true rfl⟩ dX8_reckons_195) hS (fun r_3 L1 M1 H locs hp_3 hw hS => ?_)
      obtain ⟨⟨t_3, rfl⟩, ⟨h_3, d_3⟩, hd_3, e1, e2⟩ := hp_3
      have hd_3 : d_3 ≤ 8 := hd_3
      rw [e1, e2] at hw; clear e1 e2
      refine lv_if_eq (tgt := 226) hx hb dX8_reckons_198 (by decide) (fun c_4 => ?_) (fun c_4 => ?_)
      · skip
        have c_4 := bI_f c_4
        refine lv_iconst (v := 0) hx hb dX8_reckons_226 (by decide) ?_
        exact m_zret (b := false) X hr hlk hw hS (Nat.le_of_ble_eq_true rfl) (Nat.le_of_ble_eq_true rfl) rfl ⟨⟨_, rfl⟩, (h_3, d_3), by show d_3 ≤ 8; omega, rfl, rfl⟩ dX8_reckons_227
      · skip
        have c_4 := bI_t c_4
        refine lv_aload_n hx hb dX8_reckons_201 rfl (lv_at hl 1 rfl) ?_
        refine s_get (a := 0) (b := 7) (ci := 6) X hw rfl rfl gX8 0 (by decide) fl_X8_10 rfl rfl dX8_reckons_202 ?_
        refine m_calli (m_runV (i := nm 0 8) (ci := 4) (As := []) (rest := []) X (k_X6_popLong Γ l L x 0 8 h_3 d_3  pO8 (by omega)) v_X6_popLong ml_X8_106 hw hS (p_obj Γ L (c := sP x 0 8 (h_3, d_3)) pO8) rfl rfl rfl hl.1 ⟨Nat.le_of_ble_eq_true rfl, Nat.le_of_ble_eq_true rfl⟩ (Nat.le_of_ble_eq_true rfl) ⟨Nat.le_of_ble_eq_true rfl, Nat.le_of_ble_eq_true rfl⟩ dX8_reckons_205) hS (fun r_5 L1 M1 H locs hp_5 hw hS => ?_)
        obtain ⟨⟨t_5, rfl⟩, ⟨h_5, d_5⟩, hd_5, e1, e2⟩ := hp_5
        have hd_5 : d_5 ≤ 8 := hd_5
        rw [e1, e2] at hw; clear e1 e2
        refine lv_if_eq (tgt := 226) hx hb dX8_reckons_208 (by decide) (fun c_6 => ?_) (fun c_6 => ?_)
        · skip
          have c_6 := bI_f c_6
          refine lv_iconst (v := 0) hx hb dX8_reckons_226 (by decide) ?_
          exact m_zret (b := false) X hr hlk hw hS (Nat.le_of_ble_eq_true rfl) (Nat.le_of_ble_eq_true rfl) rfl ⟨⟨_, rfl⟩, (h_5, d_5), by show d_5 ≤ 8; omega, rfl, rfl⟩ dX8_reckons_227
        · skip
          have c_6 := bI_t c_6
          refine lv_aload_n hx hb dX8_reckons_211 rfl (lv_at hl 1 rfl) ?_
          refine s_get (a := 0) (b := 7) (ci := 6) X hw rfl rfl gX8 0 (by decide) fl_X8_10 rfl rfl dX8_reckons_212 ?_
          refine lv_iconst (v := 1) hx hb dX8_reckons_215 (by decide) ?_
          refine m_calli (m_runV (i := nm 0 8) (ci := 4) (As := [.int 1]) (rest := []) X (k_X6_push Γ l L x 0 8 h_5 d_5 1 pO8 (by omega)) v_X6_push ml_X8_74 hw hS (p_obj Γ L (c := sP x 0 8 (h_5, d_5)) pO8) rfl rfl rfl hl.1 ⟨Nat.le_of_ble_eq_true rfl, Nat.le_of_ble_eq_true rfl⟩ (Nat.le_of_ble_eq_true rfl) ⟨Nat.le_of_ble_eq_true rfl, Nat.le_of_ble_eq_true rfl⟩ dX8_reckons_216) hS (fun r_7 L1 M1 H locs hp_7 hw hS => ?_)
          obtain ⟨⟨t_7, rfl⟩, ⟨h_7, d_7⟩, hd_7, e1, e2⟩ := hp_7
          have hd_7 : d_7 ≤ 8 := hd_7
          rw [e1, e2] at hw; clear e1 e2
          refine lv_if_eq (tgt := 226) hx hb dX8_reckons_219 (by decide) (fun c_8 => ?_) (fun c_8 => ?_)
          · skip
            have c_8 := bI_f c_8
            refine lv_iconst (v := 0) hx hb dX8_reckons_226 (by decide) ?_
            exact m_zret (b := false) X hr hlk hw hS (Nat.le_of_ble_eq_true rfl) (Nat.le_of_ble_eq_true rfl) rfl ⟨⟨_, rfl⟩, (h_7, d_7), by show d_7 ≤ 8; omega, rfl, rfl⟩ dX8_reckons_227
          · skip
            have c_8 := bI_t c_8
            refine lv_iconst (v := 1) hx hb dX8_reckons_222 (by decide) ?_
            refine lv_goto (tgt := 227) hx hb dX8_reckons_223 (by decide) ?_
            exact m_zret (b := true) X hr hlk hw hS (Nat.le_of_ble_eq_true rfl) (Nat.le_of_ble_eq_true rfl) rfl ⟨⟨_, rfl⟩, (h_7, d_7), by show d_7 ≤ 8; omega, rfl, rfl⟩ dX8_reckons_227
    · have c_2b : o.toInt = 7 ∨ o.toInt = 8 ∨ o.toInt = 9 ∨ o.toInt = 10 := by omega
      rcases c_2b with c_2v | c_2v | c_2v | c_2v
      · have c_2e : o = 7 := Int32.toInt_inj.mp c_2v
        refine lv_tableIn (off := 30) (tgt := 52) hx hb dX8_reckons_22 (by omega) (by omega) (by rw [c_2v]; rfl) (by decide) ?_
        refine lv_iload hx hb dX8_reckons_52 (lv_at hl 0 rfl) ?_
        refine lv_if_eq (tgt := 94) hx hb dX8_reckons_54 (by decide) (fun c_9 => ?_) (fun c_9 => ?_)
        · skip
          have c_9n : 0 = 0 := neqT (a := 0) (b := 0) rfl rfl (by omega) (by omega) c_9
          refine lv_iconst (v := 0) hx hb dX8_reckons_94 (by decide) ?_
          exact m_zret (b := false) X hr hlk hw hS (Nat.le_of_ble_eq_true rfl) (Nat.le_of_ble_eq_true rfl) rfl ⟨⟨_, rfl⟩, (h, d), by show d ≤ 8; omega, rfl, rfl⟩ dX8_reckons_95
        · skip
          exact absurd c_9 (by decide)
      · have c_2e : o = 8 := Int32.toInt_inj.mp c_2v
        refine lv_tableIn (off := 74) (tgt := 96) hx hb dX8_reckons_22 (by omega) (by omega) (by rw [c_2v]; rfl) (by decide) ?_
        refine lv_iload hx hb dX8_reckons_96 (lv_at hl 0 rfl) ?_
        refine lv_if_eq (tgt := 135) hx hb dX8_reckons_98 (by decide) (fun c_10 => ?_) (fun c_10 => ?_)
        · skip
          have c_10n : 0 = 0 := neqT (a := 0) (b := 0) rfl rfl (by omega) (by omega) c_10
          refine lv_iconst (v := 0) hx hb dX8_reckons_135 (by decide) ?_
          exact m_zret (b := false) X hr hlk hw hS (Nat.le_of_ble_eq_true rfl) (Nat.le_of_ble_eq_true rfl) rfl ⟨⟨_, rfl⟩, (h, d), by show d ≤ 8; omega, rfl, rfl⟩ dX8_reckons_136
        · skip
          exact absurd c_10 (by decide)
      · have c_2e : o = 9 := Int32.toInt_inj.mp c_2v
        refine lv_tableIn (off := 115) (tgt := 137) hx hb dX8_reckons_22 (by omega) (by omega) (by rw [c_2v]; rfl) (by decide) ?_
        refine lv_aload_n hx hb dX8_reckons_137 rfl (lv_at hl 1 rfl) ?_
        refine s_get (a := 0) (b := 7) (ci := 6) X hw rfl rfl gX8 0 (by decide) fl_X8_10 rfl rfl dX8_reckons_138 ?_
        refine lv_iconst (v := 1) hx hb dX8_reckons_141 (by decide) ?_
        refine m_calli (m_runV (i := nm 0 8) (ci := 4) (As := [.int 1]) (rest := []) X (k_X6_pop Γ l L x 0 8 h d 1 pO8 (by omega) (by first | decide | assumption)) v_X6_pop ml_X8_115 hw hS (p_obj Γ L (c := sP x 0 8 (h, d)) pO8) rfl rfl rfl hl.1 ⟨Nat.le_of_ble_eq_true rfl, Nat.le_of_ble_eq_true rfl⟩ (Nat.le_of_ble_eq_true rfl) ⟨Nat.le_of_ble_eq_true rfl, Nat.le_of_ble_eq_true rfl⟩ dX8_reckons_142) hS (fun r_11 L1 M1 H locs hp_11 hw hS => ?_)
        obtain ⟨⟨t_11, rfl⟩, ⟨h_11, d_11⟩, hd_11, e1, e2⟩ := hp_11
        have hd_11 : d_11 ≤ 8 := hd_11
        rw [e1, e2] at hw; clear e1 e2
        refine lv_if_eq (tgt := 162) hx hb dX8_reckons_145 (by decide) (fun c_12 => ?_) (fun c_12 => ?_)
        · skip
          have c_12 := bI_f c_12
          refine lv_iconst (v := 0) hx hb dX8_reckons_162 (by decide) ?_
          exact m_zret (b := false) X hr hlk hw hS (Nat.le_of_ble_eq_true rfl) (Nat.le_of_ble_eq_true rfl) rfl ⟨⟨_, rfl⟩, (h_11, d_11), by show d_11 ≤ 8; omega, rfl, rfl⟩ dX8_reckons_163
        · skip
          have c_12 := bI_t c_12
          refine lv_aload_n hx hb dX8_reckons_148 rfl (lv_at hl 1 rfl) ?_
          refine s_get (a := 0) (b := 7) (ci := 6) X hw rfl rfl gX8 0 (by decide) fl_X8_10 rfl rfl dX8_reckons_149 ?_
          refine m_calli (m_runV (i := nm 0 8) (ci := 4) (As := []) (rest := []) X (k_X6_pushLong Γ l L x 0 8 h_11 d_11  pO8 (by omega)) v_X6_pushLong ml_X8_77 hw hS (p_obj Γ L (c := sP x 0 8 (h_11, d_11)) pO8) rfl rfl rfl hl.1 ⟨Nat.le_of_ble_eq_true rfl, Nat.le_of_ble_eq_true rfl⟩ (Nat.le_of_ble_eq_true rfl) ⟨Nat.le_of_ble_eq_true rfl, Nat.le_of_ble_eq_true rfl⟩ dX8_reckons_152) hS (fun r_13 L1 M1 H locs hp_13 hw hS => ?_)
          obtain ⟨⟨t_13, rfl⟩, ⟨h_13, d_13⟩, hd_13, e1, e2⟩ := hp_13
          have hd_13 : d_13 ≤ 8 := hd_13
          rw [e1, e2] at hw; clear e1 e2
          refine lv_if_eq (tgt := 162) hx hb dX8_reckons_155 (by decide) (fun c_14 => ?_) (fun c_14 => ?_)
          · skip
            have c_14 := bI_f c_14
            refine lv_iconst (v := 0) hx hb dX8_reckons_162 (by decide) ?_
            exact m_zret (b := false) X hr hlk hw hS (Nat.le_of_ble_eq_true rfl) (Nat.le_of_ble_eq_true rfl) rfl ⟨⟨_, rfl⟩, (h_13, d_13), by show d_13 ≤ 8; omega, rfl, rfl⟩ dX8_reckons_163
          · skip
            have c_14 := bI_t c_14
            refine lv_iconst (v := 1) hx hb dX8_reckons_158 (by decide) ?_
            refine lv_goto (tgt := 163) hx hb dX8_reckons_159 (by decide) ?_
            exact m_zret (b := true) X hr hlk hw hS (Nat.le_of_ble_eq_true rfl) (Nat.le_of_ble_eq_true rfl) rfl ⟨⟨_, rfl⟩, (h_13, d_13), by show d_13 ≤ 8; omega, rfl, rfl⟩ dX8_reckons_163
      · have c_2e : o = 10 := Int32.toInt_inj.mp c_2v
        refine lv_tableIn (off := 142) (tgt := 164) hx hb dX8_reckons_22 (by omega) (by omega) (by rw [c_2v]; rfl) (by decide) ?_
        refine lv_aload_n hx hb dX8_reckons_164 rfl (lv_at hl 1 rfl) ?_
        refine s_get (a := 0) (b := 7) (ci := 6) X hw rfl rfl gX8 0 (by decide) fl_X8_10 rfl rfl dX8_reckons_165 ?_
        refine m_calli (m_runV (i := nm 0 8) (ci := 4) (As := []) (rest := []) X (k_X6_popLong Γ l L x 0 8 h d  pO8 (by omega)) v_X6_popLong ml_X8_106 hw hS (p_obj Γ L (c := sP x 0 8 (h, d)) pO8) rfl rfl rfl hl.1 ⟨Nat.le_of_ble_eq_true rfl, Nat.le_of_ble_eq_true rfl⟩ (Nat.le_of_ble_eq_true rfl) ⟨Nat.le_of_ble_eq_true rfl, Nat.le_of_ble_eq_true rfl⟩ dX8_reckons_168) hS (fun r_15 L1 M1 H locs hp_15 hw hS => ?_)
        obtain ⟨⟨t_15, rfl⟩, ⟨h_15, d_15⟩, hd_15, e1, e2⟩ := hp_15
        have hd_15 : d_15 ≤ 8 := hd_15
        rw [e1, e2] at hw; clear e1 e2
        refine lv_if_eq (tgt := 189) hx hb dX8_reckons_171 (by decide) (fun c_16 => ?_) (fun c_16 => ?_)
        · skip
          have c_16 := bI_f c_16
          refine lv_iconst (v := 0) hx hb dX8_reckons_189 (by decide) ?_
          exact m_zret (b := false) X hr hlk hw hS (Nat.le_of_ble_eq_true rfl) (Nat.le_of_ble_eq_true rfl) rfl ⟨⟨_, rfl⟩, (h_15, d_15), by show d_15 ≤ 8; omega, rfl, rfl⟩ dX8_reckons_190
        · skip
          have c_16 := bI_t c_16
          refine lv_aload_n hx hb dX8_reckons_174 rfl (lv_at hl 1 rfl) ?_
          refine s_get (a := 0) (b := 7) (ci := 6) X hw rfl rfl gX8 0 (by decide) fl_X8_10 rfl rfl dX8_reckons_175 ?_
          refine lv_iconst (v := 1) hx hb dX8_reckons_178 (by decide) ?_
          refine m_calli (m_runV (i := nm 0 8) (ci := 4) (As := [.int 1]) (rest := []) X (k_X6_push Γ l L x 0 8 h_15 d_15 1 pO8 (by omega)) v_X6_push ml_X8_74 hw hS (p_obj Γ L (c := sP x 0 8 (h_15, d_15)) pO8) rfl rfl rfl hl.1 ⟨Nat.le_of_ble_eq_true rfl, Nat.le_of_ble_eq_true rfl⟩ (Nat.le_of_ble_eq_true rfl) ⟨Nat.le_of_ble_eq_true rfl, Nat.le_of_ble_eq_true rfl⟩ dX8_reckons_179) hS (fun r_17 L1 M1 H locs hp_17 hw hS => ?_)
          obtain ⟨⟨t_17, rfl⟩, ⟨h_17, d_17⟩, hd_17, e1, e2⟩ := hp_17
          have hd_17 : d_17 ≤ 8 := hd_17
          rw [e1, e2] at hw; clear e1 e2
          refine lv_if_eq (tgt := 189) hx hb dX8_reckons_182 (by decide) (fun c_18 => ?_) (fun c_18 => ?_)
          · skip
            have c_18 := bI_f c_18
            refine lv_iconst (v := 0) hx hb dX8_reckons_189 (by decide) ?_
            exact m_zret (b := false) X hr hlk hw hS (Nat.le_of_ble_eq_true rfl) (Nat.le_of_ble_eq_true rfl) rfl ⟨⟨_, rfl⟩, (h_17, d_17), by show d_17 ≤ 8; omega, rfl, rfl⟩ dX8_reckons_190
          · skip
            have c_18 := bI_t c_18
            refine lv_iconst (v := 1) hx hb dX8_reckons_185 (by decide) ?_
            refine lv_goto (tgt := 190) hx hb dX8_reckons_186 (by decide) ?_
            exact m_zret (b := true) X hr hlk hw hS (Nat.le_of_ble_eq_true rfl) (Nat.le_of_ble_eq_true rfl) rfl ⟨⟨_, rfl⟩, (h_17, d_17), by show d_17 ≤ 8; omega, rfl, rfl⟩ dX8_reckons_190
  · skip
    refine lv_lload_n hx hb dX8_reckons_6 rfl (lv_at hl 2 rfl) ?_
    refine lv_ldc2 (v := (4)) hx hb X.1.2.2.2.1 (X.1.2.2.2.2 _ kl_X8_113) dX8_reckons_7 ?_
    refine m_lcmp_gt (tgt := 18) hx hb dX8_reckons_10 dX8_reckons_11 (by decide) (fun c_19 => ?_) (fun c_19 => ?_)
    · skip
      refine lv_iconst (v := 0) hx hb dX8_reckons_18 (by decide) ?_
      refine lv_istore (lv' := [(4, .int 0), (0, .ref (L (nm 0 7))), (1, .int o), (2, .long v)]) hx hb dX8_reckons_19 hl (by decide) rfl (fun ls hl => ?_)
      refine lv_iload_n hx hb dX8_reckons_21 rfl (lv_at hl 2 rfl) ?_
      by_cases c_20 : o.toInt < 7 ∨ 10 < o.toInt
      · refine lv_tableOut (tgt := 191) hx hb dX8_reckons_22 c_20 (by decide) ?_
        refine lv_aload_n hx hb dX8_reckons_191 rfl (lv_at hl 1 rfl) ?_
        refine s_get (a := 0) (b := 7) (ci := 6) X hw rfl rfl gX8 0 (by decide) fl_X8_10 rfl rfl dX8_reckons_192 ?_
        refine m_calli (m_runV (i := nm 0 8) (ci := 4) (As := []) (rest := []) X (k_X6_popLong Γ l L x 0 8 h d  pO8 (by omega)) v_X6_popLong ml_X8_106 hw hS (p_obj Γ L (c := sP x 0 8 (h, d)) pO8) rfl rfl rfl hl.1 ⟨Nat.le_of_ble_eq_true rfl, Nat.le_of_ble_eq_true rfl⟩ (Nat.le_of_ble_eq_true rfl) ⟨Nat.le_of_ble_eq_true rfl, Nat.le_of_ble_eq_true rfl⟩ dX8_reckons_195) hS (fun r_21 L1 M1 H locs hp_21 hw hS => ?_)
        obtain ⟨⟨t_21, rfl⟩, ⟨h_21, d_21⟩, hd_21, e1, e2⟩ := hp_21
        have hd_21 : d_21 ≤ 8 := hd_21
        rw [e1, e2] at hw; clear e1 e2
        refine lv_if_eq (tgt := 226) hx hb dX8_reckons_198 (by decide) (fun c_22 => ?_) (fun c_22 => ?_)
        · skip
          have c_22 := bI_f c_22
          refine lv_iconst (v := 0) hx hb dX8_reckons_226 (by decide) ?_
          exact m_zret (b := false) X hr hlk hw hS (Nat.le_of_ble_eq_true rfl) (Nat.le_of_ble_eq_true rfl) rfl ⟨⟨_, rfl⟩, (h_21, d_21), by show d_21 ≤ 8; omega, rfl, rfl⟩ dX8_reckons_227
        · skip
          have c_22 := bI_t c_22
          refine lv_aload_n hx hb dX8_reckons_201 rfl (lv_at hl 1 rfl) ?_
          refine s_get (a := 0) (b := 7) (ci := 6) X hw rfl rfl gX8 0 (by decide) fl_X8_10 rfl rfl dX8_reckons_202 ?_
          refine m_calli (m_runV (i := nm 0 8) (ci := 4) (As := []) (rest := []) X (k_X6_popLong Γ l L x 0 8 h_21 d_21  pO8 (by omega)) v_X6_popLong ml_X8_106 hw hS (p_obj Γ L (c := sP x 0 8 (h_21, d_21)) pO8) rfl rfl rfl hl.1 ⟨Nat.le_of_ble_eq_true rfl, Nat.le_of_ble_eq_true rfl⟩ (Nat.le_of_ble_eq_true rfl) ⟨Nat.le_of_ble_eq_true rfl, Nat.le_of_ble_eq_true rfl⟩ dX8_reckons_205) hS (fun r_23 L1 M1 H locs hp_23 hw hS => ?_)
          obtain ⟨⟨t_23, rfl⟩, ⟨h_23, d_23⟩, hd_23, e1, e2⟩ := hp_23
          have hd_23 : d_23 ≤ 8 := hd_23
          rw [e1, e2] at hw; clear e1 e2
          refine lv_if_eq (tgt := 226) hx hb dX8_reckons_208 (by decide) (fun c_24 => ?_) (fun c_24 => ?_)
          · skip
            have c_24 := bI_f c_24
            refine lv_iconst (v := 0) hx hb dX8_reckons_226 (by decide) ?_
            exact m_zret (b := false) X hr hlk hw hS (Nat.le_of_ble_eq_true rfl) (Nat.le_of_ble_eq_true rfl) rfl ⟨⟨_, rfl⟩, (h_23, d_23), by show d_23 ≤ 8; omega, rfl, rfl⟩ dX8_reckons_227
          · skip
            have c_24 := bI_t c_24
            refine lv_aload_n hx hb dX8_reckons_211 rfl (lv_at hl 1 rfl) ?_
            refine s_get (a := 0) (b := 7) (ci := 6) X hw rfl rfl gX8 0 (by decide) fl_X8_10 rfl rfl dX8_reckons_212 ?_
            refine lv_iconst (v := 1) hx hb dX8_reckons_215 (by decide) ?_
            refine m_calli (m_runV (i := nm 0 8) (ci := 4) (As := [.int 1]) (rest := []) X (k_X6_push Γ l L x 0 8 h_23 d_23 1 pO8 (by omega)) v_X6_push ml_X8_74 hw hS (p_obj Γ L (c := sP x 0 8 (h_23, d_23)) pO8) rfl rfl rfl hl.1 ⟨Nat.le_of_ble_eq_true rfl, Nat.le_of_ble_eq_true rfl⟩ (Nat.le_of_ble_eq_true rfl) ⟨Nat.le_of_ble_eq_true rfl, Nat.le_of_ble_eq_true rfl⟩ dX8_reckons_216) hS (fun r_25 L1 M1 H locs hp_25 hw hS => ?_)
            obtain ⟨⟨t_25, rfl⟩, ⟨h_25, d_25⟩, hd_25, e1, e2⟩ := hp_25
            have hd_25 : d_25 ≤ 8 := hd_25
            rw [e1, e2] at hw; clear e1 e2
            refine lv_if_eq (tgt := 226) hx hb dX8_reckons_219 (by decide) (fun c_26 => ?_) (fun c_26 => ?_)
            · skip
              have c_26 := bI_f c_26
              refine lv_iconst (v := 0) hx hb dX8_reckons_226 (by decide) ?_
              exact m_zret (b := false) X hr hlk hw hS (Nat.le_of_ble_eq_true rfl) (Nat.le_of_ble_eq_true rfl) rfl ⟨⟨_, rfl⟩, (h_25, d_25), by show d_25 ≤ 8; omega, rfl, rfl⟩ dX8_reckons_227
            · skip
              have c_26 := bI_t c_26
              refine lv_iconst (v := 1) hx hb dX8_reckons_222 (by decide) ?_
              refine lv_goto (tgt := 227) hx hb dX8_reckons_223 (by decide) ?_
              exact m_zret (b := true) X hr hlk hw hS (Nat.le_of_ble_eq_true rfl) (Nat.le_of_ble_eq_true rfl) rfl ⟨⟨_, rfl⟩, (h_25, d_25), by show d_25 ≤ 8; omega, rfl, rfl⟩ dX8_reckons_227
      · have c_20b : o.toInt = 7 ∨ o.toInt = 8 ∨ o.toInt = 9 ∨ o.toInt = 10 := by omega
        rcases c_20b with c_20v | c_20v | c_20v | c_20v
        · have c_20e : o = 7 := Int32.toInt_inj.mp c_20v
          refine lv_tableIn (off := 30) (tgt := 52) hx hb dX8_reckons_22 (by omega) (by omega) (by rw [c_20v]; rfl) (by decide) ?_
          refine lv_iload hx hb dX8_reckons_52 (lv_at hl 0 rfl) ?_
          refine lv_if_eq (tgt := 94) hx hb dX8_reckons_54 (by decide) (fun c_27 => ?_) (fun c_27 => ?_)
          · skip
            have c_27n : 0 = 0 := neqT (a := 0) (b := 0) rfl rfl (by omega) (by omega) c_27
            refine lv_iconst (v := 0) hx hb dX8_reckons_94 (by decide) ?_
            exact m_zret (b := false) X hr hlk hw hS (Nat.le_of_ble_eq_true rfl) (Nat.le_of_ble_eq_true rfl) rfl ⟨⟨_, rfl⟩, (h, d), by show d ≤ 8; omega, rfl, rfl⟩ dX8_reckons_95
          · skip
            exact absurd c_27 (by decide)
        · have c_20e : o = 8 := Int32.toInt_inj.mp c_20v
          refine lv_tableIn (off := 74) (tgt := 96) hx hb dX8_reckons_22 (by omega) (by omega) (by rw [c_20v]; rfl) (by decide) ?_
          refine lv_iload hx hb dX8_reckons_96 (lv_at hl 0 rfl) ?_
          refine lv_if_eq (tgt := 135) hx hb dX8_reckons_98 (by decide) (fun c_28 => ?_) (fun c_28 => ?_)
          · skip
            have c_28n : 0 = 0 := neqT (a := 0) (b := 0) rfl rfl (by omega) (by omega) c_28
            refine lv_iconst (v := 0) hx hb dX8_reckons_135 (by decide) ?_
            exact m_zret (b := false) X hr hlk hw hS (Nat.le_of_ble_eq_true rfl) (Nat.le_of_ble_eq_true rfl) rfl ⟨⟨_, rfl⟩, (h, d), by show d ≤ 8; omega, rfl, rfl⟩ dX8_reckons_136
          · skip
            exact absurd c_28 (by decide)
        · have c_20e : o = 9 := Int32.toInt_inj.mp c_20v
          refine lv_tableIn (off := 115) (tgt := 137) hx hb dX8_reckons_22 (by omega) (by omega) (by rw [c_20v]; rfl) (by decide) ?_
          refine lv_aload_n hx hb dX8_reckons_137 rfl (lv_at hl 1 rfl) ?_
          refine s_get (a := 0) (b := 7) (ci := 6) X hw rfl rfl gX8 0 (by decide) fl_X8_10 rfl rfl dX8_reckons_138 ?_
          refine lv_iconst (v := 1) hx hb dX8_reckons_141 (by decide) ?_
          refine m_calli (m_runV (i := nm 0 8) (ci := 4) (As := [.int 1]) (rest := []) X (k_X6_pop Γ l L x 0 8 h d 1 pO8 (by omega) (by first | decide | assumption)) v_X6_pop ml_X8_115 hw hS (p_obj Γ L (c := sP x 0 8 (h, d)) pO8) rfl rfl rfl hl.1 ⟨Nat.le_of_ble_eq_true rfl, Nat.le_of_ble_eq_true rfl⟩ (Nat.le_of_ble_eq_true rfl) ⟨Nat.le_of_ble_eq_true rfl, Nat.le_of_ble_eq_true rfl⟩ dX8_reckons_142) hS (fun r_29 L1 M1 H locs hp_29 hw hS => ?_)
          obtain ⟨⟨t_29, rfl⟩, ⟨h_29, d_29⟩, hd_29, e1, e2⟩ := hp_29
          have hd_29 : d_29 ≤ 8 := hd_29
          rw [e1, e2] at hw; clear e1 e2
          refine lv_if_eq (tgt := 162) hx hb dX8_reckons_145 (by decide) (fun c_30 => ?_) (fun c_30 => ?_)
          · skip
            have c_30 := bI_f c_30
            refine lv_iconst (v := 0) hx hb dX8_reckons_162 (by decide) ?_
            exact m_zret (b := false) X hr hlk hw hS (Nat.le_of_ble_eq_true rfl) (Nat.le_of_ble_eq_true rfl) rfl ⟨⟨_, rfl⟩, (h_29, d_29), by show d_29 ≤ 8; omega, rfl, rfl⟩ dX8_reckons_163
          · skip
            have c_30 := bI_t c_30
            refine lv_aload_n hx hb dX8_reckons_148 rfl (lv_at hl 1 rfl) ?_
            refine s_get (a := 0) (b := 7) (ci := 6) X hw rfl rfl gX8 0 (by decide) fl_X8_10 rfl rfl dX8_reckons_149 ?_
            refine m_calli (m_runV (i := nm 0 8) (ci := 4) (As := []) (rest := []) X (k_X6_pushLong Γ l L x 0 8 h_29 d_29  pO8 (by omega)) v_X6_pushLong ml_X8_77 hw hS (p_obj Γ L (c := sP x 0 8 (h_29, d_29)) pO8) rfl rfl rfl hl.1 ⟨Nat.le_of_ble_eq_true rfl, Nat.le_of_ble_eq_true rfl⟩ (Nat.le_of_ble_eq_true rfl) ⟨Nat.le_of_ble_eq_true rfl, Nat.le_of_ble_eq_true rfl⟩ dX8_reckons_152) hS (fun r_31 L1 M1 H locs hp_31 hw hS => ?_)
            obtain ⟨⟨t_31, rfl⟩, ⟨h_31, d_31⟩, hd_31, e1, e2⟩ := hp_31
            have hd_31 : d_31 ≤ 8 := hd_31
            rw [e1, e2] at hw; clear e1 e2
            refine lv_if_eq (tgt := 162) hx hb dX8_reckons_155 (by decide) (fun c_32 => ?_) (fun c_32 => ?_)
            · skip
              have c_32 := bI_f c_32
              refine lv_iconst (v := 0) hx hb dX8_reckons_162 (by decide) ?_
              exact m_zret (b := false) X hr hlk hw hS (Nat.le_of_ble_eq_true rfl) (Nat.le_of_ble_eq_true rfl) rfl ⟨⟨_, rfl⟩, (h_31, d_31), by show d_31 ≤ 8; omega, rfl, rfl⟩ dX8_reckons_163
            · skip
              have c_32 := bI_t c_32
              refine lv_iconst (v := 1) hx hb dX8_reckons_158 (by decide) ?_
              refine lv_goto (tgt := 163) hx hb dX8_reckons_159 (by decide) ?_
              exact m_zret (b := true) X hr hlk hw hS (Nat.le_of_ble_eq_true rfl) (Nat.le_of_ble_eq_true rfl) rfl ⟨⟨_, rfl⟩, (h_31, d_31), by show d_31 ≤ 8; omega, rfl, rfl⟩ dX8_reckons_163
        · have c_20e : o = 10 := Int32.toInt_inj.mp c_20v
          refine lv_tableIn (off := 142) (tgt := 164) hx hb dX8_reckons_22 (by omega) (by omega) (by rw [c_20v]; rfl) (by decide) ?_
          refine lv_aload_n hx hb dX8_reckons_164 rfl (lv_at hl 1 rfl) ?_
          refine s_get (a := 0) (b := 7) (ci := 6) X hw rfl rfl gX8 0 (by decide) fl_X8_10 rfl rfl dX8_reckons_165 ?_
          refine m_calli (m_runV (i := nm 0 8) (ci := 4) (As := []) (rest := []) X (k_X6_popLong Γ l L x 0 8 h d  pO8 (by omega)) v_X6_popLong ml_X8_106 hw hS (p_obj Γ L (c := sP x 0 8 (h, d)) pO8) rfl rfl rfl hl.1 ⟨Nat.le_of_ble_eq_true rfl, Nat.le_of_ble_eq_true rfl⟩ (Nat.le_of_ble_eq_true rfl) ⟨Nat.le_of_ble_eq_true rfl, Nat.le_of_ble_eq_true rfl⟩ dX8_reckons_168) hS (fun r_33 L1 M1 H locs hp_33 hw hS => ?_)
          obtain ⟨⟨t_33, rfl⟩, ⟨h_33, d_33⟩, hd_33, e1, e2⟩ := hp_33
          have hd_33 : d_33 ≤ 8 := hd_33
          rw [e1, e2] at hw; clear e1 e2
          refine lv_if_eq (tgt := 189) hx hb dX8_reckons_171 (by decide) (fun c_34 => ?_) (fun c_34 => ?_)
          · skip
            have c_34 := bI_f c_34
            refine lv_iconst (v := 0) hx hb dX8_reckons_189 (by decide) ?_
            exact m_zret (b := false) X hr hlk hw hS (Nat.le_of_ble_eq_true rfl) (Nat.le_of_ble_eq_true rfl) rfl ⟨⟨_, rfl⟩, (h_33, d_33), by show d_33 ≤ 8; omega, rfl, rfl⟩ dX8_reckons_190
          · skip
            have c_34 := bI_t c_34
            refine lv_aload_n hx hb dX8_reckons_174 rfl (lv_at hl 1 rfl) ?_
            refine s_get (a := 0) (b := 7) (ci := 6) X hw rfl rfl gX8 0 (by decide) fl_X8_10 rfl rfl dX8_reckons_175 ?_
            refine lv_iconst (v := 1) hx hb dX8_reckons_178 (by decide) ?_
            refine m_calli (m_runV (i := nm 0 8) (ci := 4) (As := [.int 1]) (rest := []) X (k_X6_push Γ l L x 0 8 h_33 d_33 1 pO8 (by omega)) v_X6_push ml_X8_74 hw hS (p_obj Γ L (c := sP x 0 8 (h_33, d_33)) pO8) rfl rfl rfl hl.1 ⟨Nat.le_of_ble_eq_true rfl, Nat.le_of_ble_eq_true rfl⟩ (Nat.le_of_ble_eq_true rfl) ⟨Nat.le_of_ble_eq_true rfl, Nat.le_of_ble_eq_true rfl⟩ dX8_reckons_179) hS (fun r_35 L1 M1 H locs hp_35 hw hS => ?_)
            obtain ⟨⟨t_35, rfl⟩, ⟨h_35, d_35⟩, hd_35, e1, e2⟩ := hp_35
            have hd_35 : d_35 ≤ 8 := hd_35
            rw [e1, e2] at hw; clear e1 e2
            refine lv_if_eq (tgt := 189) hx hb dX8_reckons_182 (by decide) (fun c_36 => ?_) (fun c_36 => ?_)
            · skip
              have c_36 := bI_f c_36
              refine lv_iconst (v := 0) hx hb dX8_reckons_189 (by decide) ?_
              exact m_zret (b := false) X hr hlk hw hS (Nat.le_of_ble_eq_true rfl) (Nat.le_of_ble_eq_true rfl) rfl ⟨⟨_, rfl⟩, (h_35, d_35), by show d_35 ≤ 8; omega, rfl, rfl⟩ dX8_reckons_190
            · skip
              have c_36 := bI_t c_36
              refine lv_iconst (v := 1) hx hb dX8_reckons_185 (by decide) ?_
              refine lv_goto (tgt := 190) hx hb dX8_reckons_186 (by decide) ?_
              exact m_zret (b := true) X hr hlk hw hS (Nat.le_of_ble_eq_true rfl) (Nat.le_of_ble_eq_true rfl) rfl ⟨⟨_, rfl⟩, (h_35, d_35), by show d_35 ≤ 8; omega, rfl, rfl⟩ dX8_reckons_190
    · skip
      refine lv_iconst (v := 1) hx hb dX8_reckons_14 (by decide) ?_
      refine lv_goto (tgt := 19) hx hb dX8_reckons_15 (by decide) ?_
      refine lv_istore (lv' := [(4, .int 1), (0, .ref (L (nm 0 7))), (1, .int o), (2, .long v)]) hx hb dX8_reckons_19 hl (by decide) rfl (fun ls hl => ?_)
      refine lv_iload_n hx hb dX8_reckons_21 rfl (lv_at hl 2 rfl) ?_
      by_cases c_37 : o.toInt < 7 ∨ 10 < o.toInt
      · refine lv_tableOut (tgt := 191) hx hb dX8_reckons_22 c_37 (by decide) ?_
        refine lv_aload_n hx hb dX8_reckons_191 rfl (lv_at hl 1 rfl) ?_
        refine s_get (a := 0) (b := 7) (ci := 6) X hw rfl rfl gX8 0 (by decide) fl_X8_10 rfl rfl dX8_reckons_192 ?_
        refine m_calli (m_runV (i := nm 0 8) (ci := 4) (As := []) (rest := []) X (k_X6_popLong Γ l L x 0 8 h d  pO8 (by omega)) v_X6_popLong ml_X8_106 hw hS (p_obj Γ L (c := sP x 0 8 (h, d)) pO8) rfl rfl rfl hl.1 ⟨Nat.le_of_ble_eq_true rfl, Nat.le_of_ble_eq_true rfl⟩ (Nat.le_of_ble_eq_true rfl) ⟨Nat.le_of_ble_eq_true rfl, Nat.le_of_ble_eq_true rfl⟩ dX8_reckons_195) hS (fun r_38 L1 M1 H locs hp_38 hw hS => ?_)
        obtain ⟨⟨t_38, rfl⟩, ⟨h_38, d_38⟩, hd_38, e1, e2⟩ := hp_38
        have hd_38 : d_38 ≤ 8 := hd_38
        rw [e1, e2] at hw; clear e1 e2
        refine lv_if_eq (tgt := 226) hx hb dX8_reckons_198 (by decide) (fun c_39 => ?_) (fun c_39 => ?_)
        · skip
          have c_39 := bI_f c_39
          refine lv_iconst (v := 0) hx hb dX8_reckons_226 (by decide) ?_
          exact m_zret (b := false) X hr hlk hw hS (Nat.le_of_ble_eq_true rfl) (Nat.le_of_ble_eq_true rfl) rfl ⟨⟨_, rfl⟩, (h_38, d_38), by show d_38 ≤ 8; omega, rfl, rfl⟩ dX8_reckons_227
        · skip
          have c_39 := bI_t c_39
          refine lv_aload_n hx hb dX8_reckons_201 rfl (lv_at hl 1 rfl) ?_
          refine s_get (a := 0) (b := 7) (ci := 6) X hw rfl rfl gX8 0 (by decide) fl_X8_10 rfl rfl dX8_reckons_202 ?_
          refine m_calli (m_runV (i := nm 0 8) (ci := 4) (As := []) (rest := []) X (k_X6_popLong Γ l L x 0 8 h_38 d_38  pO8 (by omega)) v_X6_popLong ml_X8_106 hw hS (p_obj Γ L (c := sP x 0 8 (h_38, d_38)) pO8) rfl rfl rfl hl.1 ⟨Nat.le_of_ble_eq_true rfl, Nat.le_of_ble_eq_true rfl⟩ (Nat.le_of_ble_eq_true rfl) ⟨Nat.le_of_ble_eq_true rfl, Nat.le_of_ble_eq_true rfl⟩ dX8_reckons_205) hS (fun r_40 L1 M1 H locs hp_40 hw hS => ?_)
          obtain ⟨⟨t_40, rfl⟩, ⟨h_40, d_40⟩, hd_40, e1, e2⟩ := hp_40
          have hd_40 : d_40 ≤ 8 := hd_40
          rw [e1, e2] at hw; clear e1 e2
          refine lv_if_eq (tgt := 226) hx hb dX8_reckons_208 (by decide) (fun c_41 => ?_) (fun c_41 => ?_)
          · skip
            have c_41 := bI_f c_41
            refine lv_iconst (v := 0) hx hb dX8_reckons_226 (by decide) ?_
            exact m_zret (b := false) X hr hlk hw hS (Nat.le_of_ble_eq_true rfl) (Nat.le_of_ble_eq_true rfl) rfl ⟨⟨_, rfl⟩, (h_40, d_40), by show d_40 ≤ 8; omega, rfl, rfl⟩ dX8_reckons_227
          · skip
            have c_41 := bI_t c_41
            refine lv_aload_n hx hb dX8_reckons_211 rfl (lv_at hl 1 rfl) ?_
            refine s_get (a := 0) (b := 7) (ci := 6) X hw rfl rfl gX8 0 (by decide) fl_X8_10 rfl rfl dX8_reckons_212 ?_
            refine lv_iconst (v := 1) hx hb dX8_reckons_215 (by decide) ?_
            refine m_calli (m_runV (i := nm 0 8) (ci := 4) (As := [.int 1]) (rest := []) X (k_X6_push Γ l L x 0 8 h_40 d_40 1 pO8 (by omega)) v_X6_push ml_X8_74 hw hS (p_obj Γ L (c := sP x 0 8 (h_40, d_40)) pO8) rfl rfl rfl hl.1 ⟨Nat.le_of_ble_eq_true rfl, Nat.le_of_ble_eq_true rfl⟩ (Nat.le_of_ble_eq_true rfl) ⟨Nat.le_of_ble_eq_true rfl, Nat.le_of_ble_eq_true rfl⟩ dX8_reckons_216) hS (fun r_42 L1 M1 H locs hp_42 hw hS => ?_)
            obtain ⟨⟨t_42, rfl⟩, ⟨h_42, d_42⟩, hd_42, e1, e2⟩ := hp_42
            have hd_42 : d_42 ≤ 8 := hd_42
            rw [e1, e2] at hw; clear e1 e2
            refine lv_if_eq (tgt := 226) hx hb dX8_reckons_219 (by decide) (fun c_43 => ?_) (fun c_43 => ?_)
            · skip
              have c_43 := bI_f c_43
              refine lv_iconst (v := 0) hx hb dX8_reckons_226 (by decide) ?_
              exact m_zret (b := false) X hr hlk hw hS (Nat.le_of_ble_eq_true rfl) (Nat.le_of_ble_eq_true rfl) rfl ⟨⟨_, rfl⟩, (h_42, d_42), by show d_42 ≤ 8; omega, rfl, rfl⟩ dX8_reckons_227
            · skip
              have c_43 := bI_t c_43
              refine lv_iconst (v := 1) hx hb dX8_reckons_222 (by decide) ?_
              refine lv_goto (tgt := 227) hx hb dX8_reckons_223 (by decide) ?_
              exact m_zret (b := true) X hr hlk hw hS (Nat.le_of_ble_eq_true rfl) (Nat.le_of_ble_eq_true rfl) rfl ⟨⟨_, rfl⟩, (h_42, d_42), by show d_42 ≤ 8; omega, rfl, rfl⟩ dX8_reckons_227
      · have c_37b : o.toInt = 7 ∨ o.toInt = 8 ∨ o.toInt = 9 ∨ o.toInt = 10 := by omega
        rcases c_37b with c_37v | c_37v | c_37v | c_37v
        · have c_37e : o = 7 := Int32.toInt_inj.mp c_37v
          refine lv_tableIn (off := 30) (tgt := 52) hx hb dX8_reckons_22 (by omega) (by omega) (by rw [c_37v]; rfl) (by decide) ?_
          refine lv_iload hx hb dX8_reckons_52 (lv_at hl 0 rfl) ?_
          refine lv_if_eq (tgt := 94) hx hb dX8_reckons_54 (by decide) (fun c_44 => ?_) (fun c_44 => ?_)
          · skip
            exact absurd c_44 (by decide)
          · skip
            have c_44n : ¬ 1 = 0 := neqF (a := 1) (b := 0) rfl rfl (by omega) (by omega) c_44
            refine lv_aload_n hx hb dX8_reckons_57 rfl (lv_at hl 1 rfl) ?_
            refine s_get (a := 0) (b := 7) (ci := 6) X hw rfl rfl gX8 0 (by decide) fl_X8_10 rfl rfl dX8_reckons_58 ?_
            refine lv_iconst (v := 1) hx hb dX8_reckons_61 (by decide) ?_
            refine m_calli (m_runV (i := nm 0 8) (ci := 4) (As := [.int 1]) (rest := []) X (k_X6_pop Γ l L x 0 8 h d 1 pO8 (by omega) (by first | decide | assumption)) v_X6_pop ml_X8_115 hw hS (p_obj Γ L (c := sP x 0 8 (h, d)) pO8) rfl rfl rfl hl.1 ⟨Nat.le_of_ble_eq_true rfl, Nat.le_of_ble_eq_true rfl⟩ (Nat.le_of_ble_eq_true rfl) ⟨Nat.le_of_ble_eq_true rfl, Nat.le_of_ble_eq_true rfl⟩ dX8_reckons_62) hS (fun r_45 L1 M1 H locs hp_45 hw hS => ?_)
            obtain ⟨⟨t_45, rfl⟩, ⟨h_45, d_45⟩, hd_45, e1, e2⟩ := hp_45
            have hd_45 : d_45 ≤ 8 := hd_45
            rw [e1, e2] at hw; clear e1 e2
            refine lv_if_eq (tgt := 94) hx hb dX8_reckons_65 (by decide) (fun c_46 => ?_) (fun c_46 => ?_)
            · skip
              have c_46 := bI_f c_46
              refine lv_iconst (v := 0) hx hb dX8_reckons_94 (by decide) ?_
              exact m_zret (b := false) X hr hlk hw hS (Nat.le_of_ble_eq_true rfl) (Nat.le_of_ble_eq_true rfl) rfl ⟨⟨_, rfl⟩, (h_45, d_45), by show d_45 ≤ 8; omega, rfl, rfl⟩ dX8_reckons_95
            · skip
              have c_46 := bI_t c_46
              refine lv_aload_n hx hb dX8_reckons_68 rfl (lv_at hl 1 rfl) ?_
              refine s_get (a := 0) (b := 7) (ci := 6) X hw rfl rfl gX8 0 (by decide) fl_X8_10 rfl rfl dX8_reckons_69 ?_
              refine lv_iconst (v := 1) hx hb dX8_reckons_72 (by decide) ?_
              refine m_calli (m_runV (i := nm 0 8) (ci := 4) (As := [.int 1]) (rest := []) X (k_X6_pop Γ l L x 0 8 h_45 d_45 1 pO8 (by omega) (by first | decide | assumption)) v_X6_pop ml_X8_115 hw hS (p_obj Γ L (c := sP x 0 8 (h_45, d_45)) pO8) rfl rfl rfl hl.1 ⟨Nat.le_of_ble_eq_true rfl, Nat.le_of_ble_eq_true rfl⟩ (Nat.le_of_ble_eq_true rfl) ⟨Nat.le_of_ble_eq_true rfl, Nat.le_of_ble_eq_true rfl⟩ dX8_reckons_73) hS (fun r_47 L1 M1 H locs hp_47 hw hS => ?_)
              obtain ⟨⟨t_47, rfl⟩, ⟨h_47, d_47⟩, hd_47, e1, e2⟩ := hp_47
              have hd_47 : d_47 ≤ 8 := hd_47
              rw [e1, e2] at hw; clear e1 e2
              refine lv_if_eq (tgt := 94) hx hb dX8_reckons_76 (by decide) (fun c_48 => ?_) (fun c_48 => ?_)
              · skip
                have c_48 := bI_f c_48
                refine lv_iconst (v := 0) hx hb dX8_reckons_94 (by decide) ?_
                exact m_zret (b := false) X hr hlk hw hS (Nat.le_of_ble_eq_true rfl) (Nat.le_of_ble_eq_true rfl) rfl ⟨⟨_, rfl⟩, (h_47, d_47), by show d_47 ≤ 8; omega, rfl, rfl⟩ dX8_reckons_95
              · skip
                have c_48 := bI_t c_48
                refine lv_aload_n hx hb dX8_reckons_79 rfl (lv_at hl 1 rfl) ?_
                refine s_get (a := 0) (b := 7) (ci := 6) X hw rfl rfl gX8 0 (by decide) fl_X8_10 rfl rfl dX8_reckons_80 ?_
                refine lv_iconst (v := 1) hx hb dX8_reckons_83 (by decide) ?_
                refine m_calli (m_runV (i := nm 0 8) (ci := 4) (As := [.int 1]) (rest := []) X (k_X6_push Γ l L x 0 8 h_47 d_47 1 pO8 (by omega)) v_X6_push ml_X8_74 hw hS (p_obj Γ L (c := sP x 0 8 (h_47, d_47)) pO8) rfl rfl rfl hl.1 ⟨Nat.le_of_ble_eq_true rfl, Nat.le_of_ble_eq_true rfl⟩ (Nat.le_of_ble_eq_true rfl) ⟨Nat.le_of_ble_eq_true rfl, Nat.le_of_ble_eq_true rfl⟩ dX8_reckons_84) hS (fun r_49 L1 M1 H locs hp_49 hw hS => ?_)
                obtain ⟨⟨t_49, rfl⟩, ⟨h_49, d_49⟩, hd_49, e1, e2⟩ := hp_49
                have hd_49 : d_49 ≤ 8 := hd_49
                rw [e1, e2] at hw; clear e1 e2
                refine lv_if_eq (tgt := 94) hx hb dX8_reckons_87 (by decide) (fun c_50 => ?_) (fun c_50 => ?_)
                · skip
                  have c_50 := bI_f c_50
                  refine lv_iconst (v := 0) hx hb dX8_reckons_94 (by decide) ?_
                  exact m_zret (b := false) X hr hlk hw hS (Nat.le_of_ble_eq_true rfl) (Nat.le_of_ble_eq_true rfl) rfl ⟨⟨_, rfl⟩, (h_49, d_49), by show d_49 ≤ 8; omega, rfl, rfl⟩ dX8_reckons_95
                · skip
                  have c_50 := bI_t c_50
                  refine lv_iconst (v := 1) hx hb dX8_reckons_90 (by decide) ?_
                  refine lv_goto (tgt := 95) hx hb dX8_reckons_91 (by decide) ?_
                  exact m_zret (b := true) X hr hlk hw hS (Nat.le_of_ble_eq_true rfl) (Nat.le_of_ble_eq_true rfl) rfl ⟨⟨_, rfl⟩, (h_49, d_49), by show d_49 ≤ 8; omega, rfl, rfl⟩ dX8_reckons_95
        · have c_37e : o = 8 := Int32.toInt_inj.mp c_37v
          refine lv_tableIn (off := 74) (tgt := 96) hx hb dX8_reckons_22 (by omega) (by omega) (by rw [c_37v]; rfl) (by decide) ?_
          refine lv_iload hx hb dX8_reckons_96 (lv_at hl 0 rfl) ?_
          refine lv_if_eq (tgt := 135) hx hb dX8_reckons_98 (by decide) (fun c_51 => ?_) (fun c_51 => ?_)
          · skip
            exact absurd c_51 (by decide)
          · skip
            have c_51n : ¬ 1 = 0 := neqF (a := 1) (b := 0) rfl rfl (by omega) (by omega) c_51
            refine lv_aload_n hx hb dX8_reckons_101 rfl (lv_at hl 1 rfl) ?_
            refine s_get (a := 0) (b := 7) (ci := 6) X hw rfl rfl gX8 0 (by decide) fl_X8_10 rfl rfl dX8_reckons_102 ?_
            refine m_calli (m_runV (i := nm 0 8) (ci := 4) (As := []) (rest := []) X (k_X6_popLong Γ l L x 0 8 h d  pO8 (by omega)) v_X6_popLong ml_X8_106 hw hS (p_obj Γ L (c := sP x 0 8 (h, d)) pO8) rfl rfl rfl hl.1 ⟨Nat.le_of_ble_eq_true rfl, Nat.le_of_ble_eq_true rfl⟩ (Nat.le_of_ble_eq_true rfl) ⟨Nat.le_of_ble_eq_true rfl, Nat.le_of_ble_eq_true rfl⟩ dX8_reckons_105) hS (fun r_52 L1 M1 H locs hp_52 hw hS => ?_)
            obtain ⟨⟨t_52, rfl⟩, ⟨h_52, d_52⟩, hd_52, e1, e2⟩ := hp_52
            have hd_52 : d_52 ≤ 8 := hd_52
            rw [e1, e2] at hw; clear e1 e2
            refine lv_if_eq (tgt := 135) hx hb dX8_reckons_108 (by decide) (fun c_53 => ?_) (fun c_53 => ?_)
            · skip
              have c_53 := bI_f c_53
              refine lv_iconst (v := 0) hx hb dX8_reckons_135 (by decide) ?_
              exact m_zret (b := false) X hr hlk hw hS (Nat.le_of_ble_eq_true rfl) (Nat.le_of_ble_eq_true rfl) rfl ⟨⟨_, rfl⟩, (h_52, d_52), by show d_52 ≤ 8; omega, rfl, rfl⟩ dX8_reckons_136
            · skip
              have c_53 := bI_t c_53
              refine lv_aload_n hx hb dX8_reckons_111 rfl (lv_at hl 1 rfl) ?_
              refine s_get (a := 0) (b := 7) (ci := 6) X hw rfl rfl gX8 0 (by decide) fl_X8_10 rfl rfl dX8_reckons_112 ?_
              refine m_calli (m_runV (i := nm 0 8) (ci := 4) (As := []) (rest := []) X (k_X6_popLong Γ l L x 0 8 h_52 d_52  pO8 (by omega)) v_X6_popLong ml_X8_106 hw hS (p_obj Γ L (c := sP x 0 8 (h_52, d_52)) pO8) rfl rfl rfl hl.1 ⟨Nat.le_of_ble_eq_true rfl, Nat.le_of_ble_eq_true rfl⟩ (Nat.le_of_ble_eq_true rfl) ⟨Nat.le_of_ble_eq_true rfl, Nat.le_of_ble_eq_true rfl⟩ dX8_reckons_115) hS (fun r_54 L1 M1 H locs hp_54 hw hS => ?_)
              obtain ⟨⟨t_54, rfl⟩, ⟨h_54, d_54⟩, hd_54, e1, e2⟩ := hp_54
              have hd_54 : d_54 ≤ 8 := hd_54
              rw [e1, e2] at hw; clear e1 e2
              refine lv_if_eq (tgt := 135) hx hb dX8_reckons_118 (by decide) (fun c_55 => ?_) (fun c_55 => ?_)
              · skip
                have c_55 := bI_f c_55
                refine lv_iconst (v := 0) hx hb dX8_reckons_135 (by decide) ?_
                exact m_zret (b := false) X hr hlk hw hS (Nat.le_of_ble_eq_true rfl) (Nat.le_of_ble_eq_true rfl) rfl ⟨⟨_, rfl⟩, (h_54, d_54), by show d_54 ≤ 8; omega, rfl, rfl⟩ dX8_reckons_136
              · skip
                have c_55 := bI_t c_55
                refine lv_aload_n hx hb dX8_reckons_121 rfl (lv_at hl 1 rfl) ?_
                refine s_get (a := 0) (b := 7) (ci := 6) X hw rfl rfl gX8 0 (by decide) fl_X8_10 rfl rfl dX8_reckons_122 ?_
                refine m_calli (m_runV (i := nm 0 8) (ci := 4) (As := []) (rest := []) X (k_X6_pushLong Γ l L x 0 8 h_54 d_54  pO8 (by omega)) v_X6_pushLong ml_X8_77 hw hS (p_obj Γ L (c := sP x 0 8 (h_54, d_54)) pO8) rfl rfl rfl hl.1 ⟨Nat.le_of_ble_eq_true rfl, Nat.le_of_ble_eq_true rfl⟩ (Nat.le_of_ble_eq_true rfl) ⟨Nat.le_of_ble_eq_true rfl, Nat.le_of_ble_eq_true rfl⟩ dX8_reckons_125) hS (fun r_56 L1 M1 H locs hp_56 hw hS => ?_)
                obtain ⟨⟨t_56, rfl⟩, ⟨h_56, d_56⟩, hd_56, e1, e2⟩ := hp_56
                have hd_56 : d_56 ≤ 8 := hd_56
                rw [e1, e2] at hw; clear e1 e2
                refine lv_if_eq (tgt := 135) hx hb dX8_reckons_128 (by decide) (fun c_57 => ?_) (fun c_57 => ?_)
                · skip
                  have c_57 := bI_f c_57
                  refine lv_iconst (v := 0) hx hb dX8_reckons_135 (by decide) ?_
                  exact m_zret (b := false) X hr hlk hw hS (Nat.le_of_ble_eq_true rfl) (Nat.le_of_ble_eq_true rfl) rfl ⟨⟨_, rfl⟩, (h_56, d_56), by show d_56 ≤ 8; omega, rfl, rfl⟩ dX8_reckons_136
                · skip
                  have c_57 := bI_t c_57
                  refine lv_iconst (v := 1) hx hb dX8_reckons_131 (by decide) ?_
                  refine lv_goto (tgt := 136) hx hb dX8_reckons_132 (by decide) ?_
                  exact m_zret (b := true) X hr hlk hw hS (Nat.le_of_ble_eq_true rfl) (Nat.le_of_ble_eq_true rfl) rfl ⟨⟨_, rfl⟩, (h_56, d_56), by show d_56 ≤ 8; omega, rfl, rfl⟩ dX8_reckons_136
        · have c_37e : o = 9 := Int32.toInt_inj.mp c_37v
          refine lv_tableIn (off := 115) (tgt := 137) hx hb dX8_reckons_22 (by omega) (by omega) (by rw [c_37v]; rfl) (by decide) ?_
          refine lv_aload_n hx hb dX8_reckons_137 rfl (lv_at hl 1 rfl) ?_
          refine s_get (a := 0) (b := 7) (ci := 6) X hw rfl rfl gX8 0 (by decide) fl_X8_10 rfl rfl dX8_reckons_138 ?_
          refine lv_iconst (v := 1) hx hb dX8_reckons_141 (by decide) ?_
          refine m_calli (m_runV (i := nm 0 8) (ci := 4) (As := [.int 1]) (rest := []) X (k_X6_pop Γ l L x 0 8 h d 1 pO8 (by omega) (by first | decide | assumption)) v_X6_pop ml_X8_115 hw hS (p_obj Γ L (c := sP x 0 8 (h, d)) pO8) rfl rfl rfl hl.1 ⟨Nat.le_of_ble_eq_true rfl, Nat.le_of_ble_eq_true rfl⟩ (Nat.le_of_ble_eq_true rfl) ⟨Nat.le_of_ble_eq_true rfl, Nat.le_of_ble_eq_true rfl⟩ dX8_reckons_142) hS (fun r_58 L1 M1 H locs hp_58 hw hS => ?_)
          obtain ⟨⟨t_58, rfl⟩, ⟨h_58, d_58⟩, hd_58, e1, e2⟩ := hp_58
          have hd_58 : d_58 ≤ 8 := hd_58
          rw [e1, e2] at hw; clear e1 e2
          refine lv_if_eq (tgt := 162) hx hb dX8_reckons_145 (by decide) (fun c_59 => ?_) (fun c_59 => ?_)
          · skip
            have c_59 := bI_f c_59
            refine lv_iconst (v := 0) hx hb dX8_reckons_162 (by decide) ?_
            exact m_zret (b := false) X hr hlk hw hS (Nat.le_of_ble_eq_true rfl) (Nat.le_of_ble_eq_true rfl) rfl ⟨⟨_, rfl⟩, (h_58, d_58), by show d_58 ≤ 8; omega, rfl, rfl⟩ dX8_reckons_163
          · skip
            have c_59 := bI_t c_59
            refine lv_aload_n hx hb dX8_reckons_148 rfl (lv_at hl 1 rfl) ?_
            refine s_get (a := 0) (b := 7) (ci := 6) X hw rfl rfl gX8 0 (by decide) fl_X8_10 rfl rfl dX8_reckons_149 ?_
            refine m_calli (m_runV (i := nm 0 8) (ci := 4) (As := []) (rest := []) X (k_X6_pushLong Γ l L x 0 8 h_58 d_58  pO8 (by omega)) v_X6_pushLong ml_X8_77 hw hS (p_obj Γ L (c := sP x 0 8 (h_58, d_58)) pO8) rfl rfl rfl hl.1 ⟨Nat.le_of_ble_eq_true rfl, Nat.le_of_ble_eq_true rfl⟩ (Nat.le_of_ble_eq_true rfl) ⟨Nat.le_of_ble_eq_true rfl, Nat.le_of_ble_eq_true rfl⟩ dX8_reckons_152) hS (fun r_60 L1 M1 H locs hp_60 hw hS => ?_)
            obtain ⟨⟨t_60, rfl⟩, ⟨h_60, d_60⟩, hd_60, e1, e2⟩ := hp_60
            have hd_60 : d_60 ≤ 8 := hd_60
            rw [e1, e2] at hw; clear e1 e2
            refine lv_if_eq (tgt := 162) hx hb dX8_reckons_155 (by decide) (fun c_61 => ?_) (fun c_61 => ?_)
            · skip
              have c_61 := bI_f c_61
              refine lv_iconst (v := 0) hx hb dX8_reckons_162 (by decide) ?_
              exact m_zret (b := false) X hr hlk hw hS (Nat.le_of_ble_eq_true rfl) (Nat.le_of_ble_eq_true rfl) rfl ⟨⟨_, rfl⟩, (h_60, d_60), by show d_60 ≤ 8; omega, rfl, rfl⟩ dX8_reckons_163
            · skip
              have c_61 := bI_t c_61
              refine lv_iconst (v := 1) hx hb dX8_reckons_158 (by decide) ?_
              refine lv_goto (tgt := 163) hx hb dX8_reckons_159 (by decide) ?_
              exact m_zret (b := true) X hr hlk hw hS (Nat.le_of_ble_eq_true rfl) (Nat.le_of_ble_eq_true rfl) rfl ⟨⟨_, rfl⟩, (h_60, d_60), by show d_60 ≤ 8; omega, rfl, rfl⟩ dX8_reckons_163
        · have c_37e : o = 10 := Int32.toInt_inj.mp c_37v
          refine lv_tableIn (off := 142) (tgt := 164) hx hb dX8_reckons_22 (by omega) (by omega) (by rw [c_37v]; rfl) (by decide) ?_
          refine lv_aload_n hx hb dX8_reckons_164 rfl (lv_at hl 1 rfl) ?_
          refine s_get (a := 0) (b := 7) (ci := 6) X hw rfl rfl gX8 0 (by decide) fl_X8_10 rfl rfl dX8_reckons_165 ?_
          refine m_calli (m_runV (i := nm 0 8) (ci := 4) (As := []) (rest := []) X (k_X6_popLong Γ l L x 0 8 h d  pO8 (by omega)) v_X6_popLong ml_X8_106 hw hS (p_obj Γ L (c := sP x 0 8 (h, d)) pO8) rfl rfl rfl hl.1 ⟨Nat.le_of_ble_eq_true rfl, Nat.le_of_ble_eq_true rfl⟩ (Nat.le_of_ble_eq_true rfl) ⟨Nat.le_of_ble_eq_true rfl, Nat.le_of_ble_eq_true rfl⟩ dX8_reckons_168) hS (fun r_62 L1 M1 H locs hp_62 hw hS => ?_)
          obtain ⟨⟨t_62, rfl⟩, ⟨h_62, d_62⟩, hd_62, e1, e2⟩ := hp_62
          have hd_62 : d_62 ≤ 8 := hd_62
          rw [e1, e2] at hw; clear e1 e2
          refine lv_if_eq (tgt := 189) hx hb dX8_reckons_171 (by decide) (fun c_63 => ?_) (fun c_63 => ?_)
          · skip
            have c_63 := bI_f c_63
            refine lv_iconst (v := 0) hx hb dX8_reckons_189 (by decide) ?_
            exact m_zret (b := false) X hr hlk hw hS (Nat.le_of_ble_eq_true rfl) (Nat.le_of_ble_eq_true rfl) rfl ⟨⟨_, rfl⟩, (h_62, d_62), by show d_62 ≤ 8; omega, rfl, rfl⟩ dX8_reckons_190
          · skip
            have c_63 := bI_t c_63
            refine lv_aload_n hx hb dX8_reckons_174 rfl (lv_at hl 1 rfl) ?_
            refine s_get (a := 0) (b := 7) (ci := 6) X hw rfl rfl gX8 0 (by decide) fl_X8_10 rfl rfl dX8_reckons_175 ?_
            refine lv_iconst (v := 1) hx hb dX8_reckons_178 (by decide) ?_
            refine m_calli (m_runV (i := nm 0 8) (ci := 4) (As := [.int 1]) (rest := []) X (k_X6_push Γ l L x 0 8 h_62 d_62 1 pO8 (by omega)) v_X6_push ml_X8_74 hw hS (p_obj Γ L (c := sP x 0 8 (h_62, d_62)) pO8) rfl rfl rfl hl.1 ⟨Nat.le_of_ble_eq_true rfl, Nat.le_of_ble_eq_true rfl⟩ (Nat.le_of_ble_eq_true rfl) ⟨Nat.le_of_ble_eq_true rfl, Nat.le_of_ble_eq_true rfl⟩ dX8_reckons_179) hS (fun r_64 L1 M1 H locs hp_64 hw hS => ?_)
            obtain ⟨⟨t_64, rfl⟩, ⟨h_64, d_64⟩, hd_64, e1, e2⟩ := hp_64
            have hd_64 : d_64 ≤ 8 := hd_64
            rw [e1, e2] at hw; clear e1 e2
            refine lv_if_eq (tgt := 189) hx hb dX8_reckons_182 (by decide) (fun c_65 => ?_) (fun c_65 => ?_)
            · skip
              have c_65 := bI_f c_65
              refine lv_iconst (v := 0) hx hb dX8_reckons_189 (by decide) ?_
              exact m_zret (b := false) X hr hlk hw hS (Nat.le_of_ble_eq_true rfl) (Nat.le_of_ble_eq_true rfl) rfl ⟨⟨_, rfl⟩, (h_64, d_64), by show d_64 ≤ 8; omega, rfl, rfl⟩ dX8_reckons_190
            · skip
              have c_65 := bI_t c_65
              refine lv_iconst (v := 1) hx hb dX8_reckons_185 (by decide) ?_
              refine lv_goto (tgt := 190) hx hb dX8_reckons_186 (by decide) ?_
              exact m_zret (b := true) X hr hlk hw hS (Nat.le_of_ble_eq_true rfl) (Nat.le_of_ble_eq_true rfl) rfl ⟨⟨_, rfl⟩, (h_64, d_64), by show d_64 ≤ 8; omega, rfl, rfl⟩ dX8_reckons_190
theorem v_X8_begins : mVm yX8_begins cX8_begins 5 (some .boolean) 2 := ⟨cd_X8_begins, im_X8_begins, se_X8_begins, ini_X8, by decide, by decide, by decide +kernel⟩
set_option maxHeartbeats 4000000 in
set_option maxRecDepth 100000 in
theorem k_X8_begins (Γ : mG) (l : Launch) (L : mI → Nat) (x : CS) (h : Nat → Int32) (d : Nat) (k : Int32) (v : Int64) (hd : d ≤ 8) : mMet Γ l yX8_begins cX8_begins 5 (some .boolean) { frames := 2, cells := 0, slots := 0, locals := 44 } [.ref (L (nm 0 7)), .int k, .long v] L (cM Γ L (sP x 0 8 (h, d))) (mQi Γ (mPz Γ L x 0 8)) := by
  refine m_start (by decide) (Nat.le_of_ble_eq_true rfl) ?_
  intro p e s m args below meth c A ls X hr hlk hnm hw hS hl
  have hx := X.1.1
  have hb := X.1.2.1
  have hl : lv_has ls 5 [(0, .ref (L (nm 0 7))), (1, .int k), (2, .long v)] := hl
  refine lv_bipush (v := 100) hx hb dX8_begins_0 (by decide) ?_
  refine lv_iload_n hx hb dX8_begins_2 rfl (lv_at hl 1 rfl) ?_
  refine lv_iadd hx hb dX8_begins_3 ?_
  refine lv_istore (lv' := [(4, .int (100 + k)), (0, .ref (L (nm 0 7))), (1, .int k), (2, .long v)]) hx hb dX8_begins_4 hl (by decide) rfl (fun ls hl => ?_)
  refine lv_lload_n hx hb dX8_begins_6 rfl (lv_at hl 3 rfl) ?_
  refine m_calli (m_runS (As := [.long v]) (rest := []) X (k_X3_isClass Γ l L (cM Γ L (sP x 0 8 (h, d))) v) s_X3_isClass ml_X8_118 hw hS rfl hl.1 ⟨Nat.le_of_ble_eq_true rfl, Nat.le_of_ble_eq_true rfl⟩ (Nat.le_of_ble_eq_true rfl) ⟨Nat.le_of_ble_eq_true rfl, Nat.le_of_ble_eq_true rfl⟩ dX8_begins_7) hS (fun r_1 L1 M1 H locs hp_1 hw hS => ?_)
  obtain ⟨rfl, e1, e2⟩ := hp_1
  rw [e1, e2] at hw; clear e1 e2
  refine lv_if_eq (tgt := 25) hx hb dX8_begins_10 (by decide) (fun c_2 => ?_) (fun c_2 => ?_)
  · skip
    have c_2 := bI_f c_2
    refine lv_iconst (v := 0) hx hb dX8_begins_25 (by decide) ?_
    exact m_zret (b := false) X hr hlk hw hS (Nat.le_of_ble_eq_true rfl) (Nat.le_of_ble_eq_true rfl) rfl ⟨⟨_, rfl⟩, (h, d), by show d ≤ 8; omega, rfl, rfl⟩ dX8_begins_26
  · skip
    have c_2 := bI_t c_2
    refine lv_aload_n hx hb dX8_begins_13 rfl (lv_at hl 1 rfl) ?_
    refine s_get (a := 0) (b := 7) (ci := 6) X hw rfl rfl gX8 0 (by decide) fl_X8_10 rfl rfl dX8_begins_14 ?_
    refine lv_iload hx hb dX8_begins_17 (lv_at hl 0 rfl) ?_
    refine m_calli (m_runV (i := nm 0 8) (ci := 4) (As := [.int (100 + k)]) (rest := []) X (k_X6_stackHolds Γ l L x 0 8 h d (100 + k) pO8 (by omega)) v_X6_stackHolds ml_X8_121 hw hS (p_obj Γ L (c := sP x 0 8 (h, d)) pO8) rfl rfl rfl hl.1 ⟨Nat.le_of_ble_eq_true rfl, Nat.le_of_ble_eq_true rfl⟩ (Nat.le_of_ble_eq_true rfl) ⟨Nat.le_of_ble_eq_true rfl, Nat.le_of_ble_eq_true rfl⟩ dX8_begins_19) hS (fun r_3 L1 M1 H locs hp_3 hw hS => ?_)
    obtain ⟨⟨t_3, rfl⟩, ⟨h_3, d_3⟩, hd_3, e1, e2⟩ := hp_3
    have hd_3 : d_3 ≤ 8 := hd_3
    rw [e1, e2] at hw; clear e1 e2
    refine lv_if_eq (tgt := 27) hx hb dX8_begins_22 (by decide) (fun c_4 => ?_) (fun c_4 => ?_)
    · skip
      have c_4 := bI_f c_4
      refine lv_aload_n hx hb dX8_begins_27 rfl (lv_at hl 1 rfl) ?_
      refine s_get (a := 0) (b := 7) (ci := 6) X hw rfl rfl gX8 0 (by decide) fl_X8_10 rfl rfl dX8_begins_28 ?_
      refine lv_iload hx hb dX8_begins_31 (lv_at hl 0 rfl) ?_
      refine lv_iconst (v := 0) hx hb dX8_begins_33 (by decide) ?_
      refine m_callv (m_runV (i := nm 0 8) (ci := 4) (As := [.int (100 + k), .int 0]) (rest := []) X (k_X6_replace Γ l L x 0 8 h_3 d_3 (100 + k) 0 pO8 (by omega)) v_X6_replace ml_X8_124 hw hS (p_obj Γ L (c := sP x 0 8 (h_3, d_3)) pO8) rfl rfl rfl hl.1 ⟨Nat.le_of_ble_eq_true rfl, Nat.le_of_ble_eq_true rfl⟩ (Nat.le_of_ble_eq_true rfl) ⟨Nat.le_of_ble_eq_true rfl, Nat.le_of_ble_eq_true rfl⟩ dX8_begins_34) hS (fun L1 M1 H locs hp_5 hw hS => ?_)
      obtain ⟨⟨h_5, d_5⟩, hd_5, e1, e2⟩ := hp_5
      have hd_5 : d_5 ≤ 8 := hd_5
      rw [e1, e2] at hw; clear e1 e2
      refine lv_aload_n hx hb dX8_begins_37 rfl (lv_at hl 1 rfl) ?_
      refine s_get (a := 0) (b := 7) (ci := 6) X hw rfl rfl gX8 0 (by decide) fl_X8_10 rfl rfl dX8_begins_38 ?_
      refine lv_iload hx hb dX8_begins_41 (lv_at hl 0 rfl) ?_
      refine m_calli (m_runV (i := nm 0 8) (ci := 4) (As := [.int (100 + k)]) (rest := []) X (k_X6_push Γ l L x 0 8 h_5 d_5 (100 + k) pO8 (by omega)) v_X6_push ml_X8_74 hw hS (p_obj Γ L (c := sP x 0 8 (h_5, d_5)) pO8) rfl rfl rfl hl.1 ⟨Nat.le_of_ble_eq_true rfl, Nat.le_of_ble_eq_true rfl⟩ (Nat.le_of_ble_eq_true rfl) ⟨Nat.le_of_ble_eq_true rfl, Nat.le_of_ble_eq_true rfl⟩ dX8_begins_43) hS (fun r_6 L1 M1 H locs hp_6 hw hS => ?_)
      obtain ⟨⟨t_6, rfl⟩, ⟨h_6, d_6⟩, hd_6, e1, e2⟩ := hp_6
      have hd_6 : d_6 ≤ 8 := hd_6
      rw [e1, e2] at hw; clear e1 e2
      exact m_zret (b := t_6) X hr hlk hw hS (Nat.le_of_ble_eq_true rfl) (Nat.le_of_ble_eq_true rfl) rfl ⟨⟨_, rfl⟩, (h_6, d_6), by show d_6 ≤ 8; omega, rfl, rfl⟩ dX8_begins_46
    · skip
      have c_4 := bI_t c_4
      refine lv_iconst (v := 0) hx hb dX8_begins_25 (by decide) ?_
      exact m_zret (b := false) X hr hlk hw hS (Nat.le_of_ble_eq_true rfl) (Nat.le_of_ble_eq_true rfl) rfl ⟨⟨_, rfl⟩, (h_3, d_3), by show d_3 ≤ 8; omega, rfl, rfl⟩ dX8_begins_26
theorem v_X8_takes : mVm yX8_takes cX8_takes 2 (some .boolean) 1 := ⟨cd_X8_takes, im_X8_takes, se_X8_takes, ini_X8, by decide, by decide, by decide +kernel⟩
set_option maxHeartbeats 4000000 in
set_option maxRecDepth 100000 in
theorem k_X8_takes (Γ : mG) (l : Launch) (L : mI → Nat) (x : CS) (h : Nat → Int32) (d : Nat) (k : Int32) (hd : d ≤ 8) : mMet Γ l yX8_takes cX8_takes 2 (some .boolean) { frames := 1, cells := 0, slots := 0, locals := 21 } [.ref (L (nm 0 7)), .int k] L (cM Γ L (sP x 0 8 (h, d))) (mQi Γ (mPz Γ L x 0 8)) := by
  refine m_start (by decide) (Nat.le_of_ble_eq_true rfl) ?_
  intro p e s m args below meth c A ls X hr hlk hnm hw hS hl
  have hx := X.1.1
  have hb := X.1.2.1
  have hl : lv_has ls 2 [(0, .ref (L (nm 0 7))), (1, .int k)] := hl
  refine lv_iload_n hx hb dX8_takes_0 rfl (lv_at hl 1 rfl) ?_
  refine lv_iconst (v := 4) hx hb dX8_takes_1 (by decide) ?_
  refine lv_icmp_ne (tgt := 14) hx hb dX8_takes_2 (by decide) (fun c_1 => ?_) (fun c_1 => ?_)
  · skip
    refine lv_iload_n hx hb dX8_takes_14 rfl (lv_at hl 1 rfl) ?_
    refine m_calli (m_runS (As := [.int k]) (rest := []) X (k_X3_isRow Γ l L (cM Γ L (sP x 0 8 (h, d))) k) s_X3_isRow ml_X8_136 hw hS rfl hl.1 ⟨Nat.le_of_ble_eq_true rfl, Nat.le_of_ble_eq_true rfl⟩ (Nat.le_of_ble_eq_true rfl) ⟨Nat.le_of_ble_eq_true rfl, Nat.le_of_ble_eq_true rfl⟩ dX8_takes_15) hS (fun r_2 L1 M1 H locs hp_2 hw hS => ?_)
    obtain ⟨rfl, e1, e2⟩ := hp_2
    rw [e1, e2] at hw; clear e1 e2
    refine lv_if_eq (tgt := 42) hx hb dX8_takes_18 (by decide) (fun c_3 => ?_) (fun c_3 => ?_)
    · skip
      have c_3 := bI_f c_3
      refine lv_iconst (v := 0) hx hb dX8_takes_42 (by decide) ?_
      exact m_zret (b := false) X hr hlk hw hS (Nat.le_of_ble_eq_true rfl) (Nat.le_of_ble_eq_true rfl) rfl ⟨⟨_, rfl⟩, (h, d), by show d ≤ 8; omega, rfl, rfl⟩ dX8_takes_43
    · skip
      have c_3 := bI_t c_3
      refine lv_aload_n hx hb dX8_takes_21 rfl (lv_at hl 0 rfl) ?_
      refine s_get (a := 0) (b := 7) (ci := 6) X hw rfl rfl gX8 0 (by decide) fl_X8_10 rfl rfl dX8_takes_22 ?_
      refine lv_iload_n hx hb dX8_takes_25 rfl (lv_at hl 1 rfl) ?_
      refine lv_bipush (v := 20) hx hb dX8_takes_26 (by decide) ?_
      refine lv_isub hx hb dX8_takes_28 ?_
      refine lv_bipush (v := 10) hx hb dX8_takes_29 (by decide) ?_
      refine lv_iadd hx hb dX8_takes_31 ?_
      refine m_calli (m_runV (i := nm 0 8) (ci := 4) (As := [.int ((k - 20) + 10)]) (rest := []) X (k_X6_push Γ l L x 0 8 h d ((k - 20) + 10) pO8 (by omega)) v_X6_push ml_X8_74 hw hS (p_obj Γ L (c := sP x 0 8 (h, d)) pO8) rfl rfl rfl hl.1 ⟨Nat.le_of_ble_eq_true rfl, Nat.le_of_ble_eq_true rfl⟩ (Nat.le_of_ble_eq_true rfl) ⟨Nat.le_of_ble_eq_true rfl, Nat.le_of_ble_eq_true rfl⟩ dX8_takes_32) hS (fun r_4 L1 M1 H locs hp_4 hw hS => ?_)
      obtain ⟨⟨t_4, rfl⟩, ⟨h_4, d_4⟩, hd_4, e1, e2⟩ := hp_4
      have hd_4 : d_4 ≤ 8 := hd_4
      rw [e1, e2] at hw; clear e1 e2
      refine lv_if_eq (tgt := 42) hx hb dX8_takes_35 (by decide) (fun c_5 => ?_) (fun c_5 => ?_)
      · skip
        have c_5 := bI_f c_5
        refine lv_iconst (v := 0) hx hb dX8_takes_42 (by decide) ?_
        exact m_zret (b := false) X hr hlk hw hS (Nat.le_of_ble_eq_true rfl) (Nat.le_of_ble_eq_true rfl) rfl ⟨⟨_, rfl⟩, (h_4, d_4), by show d_4 ≤ 8; omega, rfl, rfl⟩ dX8_takes_43
      · skip
        have c_5 := bI_t c_5
        refine lv_iconst (v := 1) hx hb dX8_takes_38 (by decide) ?_
        refine lv_goto (tgt := 43) hx hb dX8_takes_39 (by decide) ?_
        exact m_zret (b := true) X hr hlk hw hS (Nat.le_of_ble_eq_true rfl) (Nat.le_of_ble_eq_true rfl) rfl ⟨⟨_, rfl⟩, (h_4, d_4), by show d_4 ≤ 8; omega, rfl, rfl⟩ dX8_takes_43
  · skip
    refine lv_aload_n hx hb dX8_takes_5 rfl (lv_at hl 0 rfl) ?_
    refine s_get (a := 0) (b := 7) (ci := 6) X hw rfl rfl gX8 0 (by decide) fl_X8_10 rfl rfl dX8_takes_6 ?_
    refine lv_iconst (v := 4) hx hb dX8_takes_9 (by decide) ?_
    refine m_calli (m_runV (i := nm 0 8) (ci := 4) (As := [.int 4]) (rest := []) X (k_X6_push Γ l L x 0 8 h d 4 pO8 (by omega)) v_X6_push ml_X8_74 hw hS (p_obj Γ L (c := sP x 0 8 (h, d)) pO8) rfl rfl rfl hl.1 ⟨Nat.le_of_ble_eq_true rfl, Nat.le_of_ble_eq_true rfl⟩ (Nat.le_of_ble_eq_true rfl) ⟨Nat.le_of_ble_eq_true rfl, Nat.le_of_ble_eq_true rfl⟩ dX8_takes_10) hS (fun r_6 L1 M1 H locs hp_6 hw hS => ?_)
    obtain ⟨⟨t_6, rfl⟩, ⟨h_6, d_6⟩, hd_6, e1, e2⟩ := hp_6
    have hd_6 : d_6 ≤ 8 := hd_6
    rw [e1, e2] at hw; clear e1 e2
    exact m_zret (b := t_6) X hr hlk hw hS (Nat.le_of_ble_eq_true rfl) (Nat.le_of_ble_eq_true rfl) rfl ⟨⟨_, rfl⟩, (h_6, d_6), by show d_6 ≤ 8; omega, rfl, rfl⟩ dX8_takes_13
theorem v_X8_usesArray : mVm yX8_usesArray cX8_usesArray 4 (some .boolean) 2 := ⟨cd_X8_usesArray, im_X8_usesArray, se_X8_usesArray, ini_X8, by decide, by decide, by decide +kernel⟩
set_option maxHeartbeats 4000000 in
set_option maxRecDepth 100000 in
theorem k_X8_usesArray (Γ : mG) (l : Launch) (L : mI → Nat) (x : CS) (h : Nat → Int32) (d : Nat) (o : Int32) (v : Int64) (hd : d ≤ 8) : mMet Γ l yX8_usesArray cX8_usesArray 4 (some .boolean) { frames := 3, cells := 0, slots := 0, locals := 63 } [.ref (L (nm 0 7)), .int o, .long v] L (cM Γ L (sP x 0 8 (h, d))) (mQi Γ (mPz Γ L x 0 8)) := by
  refine m_start (by decide) (Nat.le_of_ble_eq_true rfl) ?_
  intro p e s m args below meth c A ls X hr hlk hnm hw hS hl
  have hx := X.1.1
  have hb := X.1.2.1
  have hl : lv_has ls 4 [(0, .ref (L (nm 0 7))), (1, .int o), (2, .long v)] := hl
  refine lv_iload_n hx hb dX8_usesArray_0 rfl (lv_at hl 1 rfl) ?_
  by_cases c_1 : o.toInt < 14 ∨ 19 < o.toInt
  · refine lv_tableOut (tgt := 254) hx hb dX8_usesArray_1 c_1 (by decide) ?_
    refine lv_aload_n hx hb dX8_usesArray_254 rfl (lv_at hl 0 rfl) ?_
    refine s_get (a := 0) (b := 7) (ci := 6) X hw rfl rfl gX8 0 (by decide) fl_X8_10 rfl rfl dX8_usesArray_255 ?_
    refine lv_bipush (v := 10) hx hb dX8_usesArray_258 (by decide) ?_
    refine m_calli (m_runV (i := nm 0 8) (ci := 4) (As := [.int 10]) (rest := []) X (k_X6_pop Γ l L x 0 8 h d 10 pO8 (by omega) (by first | decide | assumption)) v_X6_pop ml_X8_115 hw hS (p_obj Γ L (c := sP x 0 8 (h, d)) pO8) rfl rfl rfl hl.1 ⟨Nat.le_of_ble_eq_true rfl, Nat.le_of_ble_eq_true rfl⟩ (Nat.le_of_ble_eq_true rfl) ⟨Nat.le_of_ble_eq_true rfl, Nat.le_of_ble_eq_true rfl⟩ dX8_usesArray_260) hS (fun r_2 L1 M1 H locs hp_2 hw hS => ?_)
    obtain ⟨⟨t_2, rfl⟩, ⟨h_2, d_2⟩, hd_2, e1, e2⟩ := hp_2
    have hd_2 : d_2 ≤ 8 := hd_2
    rw [e1, e2] at hw; clear e1 e2
    refine lv_if_eq (tgt := 291) hx hb dX8_usesArray_263 (by decide) (fun c_3 => ?_) (fun c_3 => ?_)
    · skip
      have c_3 := bI_f c_3
      refine lv_iconst (v := 0) hx hb dX8_usesArray_291 (by decide) ?_
      exact m_zret (b := false) X hr hlk hw hS (Nat.le_of_ble_eq_true rfl) (Nat.le_of_ble_eq_true rfl) rfl ⟨⟨_, rfl⟩, (h_2, d_2), by show d_2 ≤ 8; omega, rfl, rfl⟩ dX8_usesArray_292
    · skip
      have c_3 := bI_t c_3
      refine lv_aload_n hx hb dX8_usesArray_266 rfl (lv_at hl 0 rfl) ?_
      refine s_get (a := 0) (b := 7) (ci := 6) X hw rfl rfl gX8 0 (by decide) fl_X8_10 rfl rfl dX8_usesArray_267 ?_
      refine lv_iconst (v := 1) hx hb dX8_usesArray_270 (by decide) ?_
      refine m_calli (m_runV (i := nm 0 8) (ci := 4) (As := [.int 1]) (rest := []) X (k_X6_pop Γ l L x 0 8 h_2 d_2 1 pO8 (by omega) (by first | decide | assumption)) v_X6_pop ml_X8_115 hw hS (p_obj Γ L (c := sP x 0 8 (h_2, d_2)) pO8) rfl rfl rfl hl.1 ⟨Nat.le_of_ble_eq_true rfl, Nat.le_of_ble_eq_true rfl⟩ (Nat.le_of_ble_eq_true rfl) ⟨Nat.le_of_ble_eq_true rfl, Nat.le_of_ble_eq_true rfl⟩ dX8_usesArray_271) hS (fun r_4 L1 M1 H locs hp_4 hw hS => ?_)
      obtain ⟨⟨t_4, rfl⟩, ⟨h_4, d_4⟩, hd_4, e1, e2⟩ := hp_4
      have hd_4 : d_4 ≤ 8 := hd_4
      rw [e1, e2] at hw; clear e1 e2
      refine lv_if_eq (tgt := 291) hx hb dX8_usesArray_274 (by decide) (fun c_5 => ?_) (fun c_5 => ?_)
      · skip
        have c_5 := bI_f c_5
        refine lv_iconst (v := 0) hx hb dX8_usesArray_291 (by decide) ?_
        exact m_zret (b := false) X hr hlk hw hS (Nat.le_of_ble_eq_true rfl) (Nat.le_of_ble_eq_true rfl) rfl ⟨⟨_, rfl⟩, (h_4, d_4), by show d_4 ≤ 8; omega, rfl, rfl⟩ dX8_usesArray_292
      · skip
        have c_5 := bI_t c_5
        refine lv_aload_n hx hb dX8_usesArray_277 rfl (lv_at hl 0 rfl) ?_
        refine s_get (a := 0) (b := 7) (ci := 6) X hw rfl rfl gX8 0 (by decide) fl_X8_10 rfl rfl dX8_usesArray_278 ?_
        refine m_calli (m_runV (i := nm 0 8) (ci := 4) (As := []) (rest := []) X (k_X6_popRow Γ l L x 0 8 h_4 d_4  pO8 (by omega)) v_X6_popRow ml_X8_130 hw hS (p_obj Γ L (c := sP x 0 8 (h_4, d_4)) pO8) rfl rfl rfl hl.1 ⟨Nat.le_of_ble_eq_true rfl, Nat.le_of_ble_eq_true rfl⟩ (Nat.le_of_ble_eq_true rfl) ⟨Nat.le_of_ble_eq_true rfl, Nat.le_of_ble_eq_true rfl⟩ dX8_usesArray_281) hS (fun r_6 L1 M1 H locs hp_6 hw hS => ?_)
        obtain ⟨⟨h_6, d_6⟩, hd_6, e1, e2⟩ := hp_6
        have hd_6 : d_6 ≤ 8 := hd_6
        rw [e1, e2] at hw; clear e1 e2
        refine lv_if_eq (tgt := 291) hx hb dX8_usesArray_284 (by decide) (fun c_7 => ?_) (fun c_7 => ?_)
        · skip
          refine lv_iconst (v := 0) hx hb dX8_usesArray_291 (by decide) ?_
          exact m_zret (b := false) X hr hlk hw hS (Nat.le_of_ble_eq_true rfl) (Nat.le_of_ble_eq_true rfl) rfl ⟨⟨_, rfl⟩, (h_6, d_6), by show d_6 ≤ 8; omega, rfl, rfl⟩ dX8_usesArray_292
        · skip
          refine lv_iconst (v := 1) hx hb dX8_usesArray_287 (by decide) ?_
          refine lv_goto (tgt := 292) hx hb dX8_usesArray_288 (by decide) ?_
          exact m_zret (b := true) X hr hlk hw hS (Nat.le_of_ble_eq_true rfl) (Nat.le_of_ble_eq_true rfl) rfl ⟨⟨_, rfl⟩, (h_6, d_6), by show d_6 ≤ 8; omega, rfl, rfl⟩ dX8_usesArray_292
  · have c_1b : o.toInt = 14 ∨ o.toInt = 15 ∨ o.toInt = 16 ∨ o.toInt = 17 ∨ o.toInt = 18 ∨ o.toInt = 19 := by omega
    rcases c_1b with c_1v | c_1v | c_1v | c_1v | c_1v | c_1v
    · have c_1e : o = 14 := Int32.toInt_inj.mp c_1v
      refine lv_tableIn (off := 39) (tgt := 40) hx hb dX8_usesArray_1 (by omega) (by omega) (by rw [c_1v]; rfl) (by decide) ?_
      refine lv_aload_n hx hb dX8_usesArray_40 rfl (lv_at hl 0 rfl) ?_
      refine s_get (a := 0) (b := 7) (ci := 6) X hw rfl rfl gX8 0 (by decide) fl_X8_10 rfl rfl dX8_usesArray_41 ?_
      refine lv_iconst (v := 1) hx hb dX8_usesArray_44 (by decide) ?_
      refine m_calli (m_runV (i := nm 0 8) (ci := 4) (As := [.int 1]) (rest := []) X (k_X6_pop Γ l L x 0 8 h d 1 pO8 (by omega) (by first | decide | assumption)) v_X6_pop ml_X8_115 hw hS (p_obj Γ L (c := sP x 0 8 (h, d)) pO8) rfl rfl rfl hl.1 ⟨Nat.le_of_ble_eq_true rfl, Nat.le_of_ble_eq_true rfl⟩ (Nat.le_of_ble_eq_true rfl) ⟨Nat.le_of_ble_eq_true rfl, Nat.le_of_ble_eq_true rfl⟩ dX8_usesArray_45) hS (fun r_8 L1 M1 H locs hp_8 hw hS => ?_)
      obtain ⟨⟨t_8, rfl⟩, ⟨h_8, d_8⟩, hd_8, e1, e2⟩ := hp_8
      have hd_8 : d_8 ≤ 8 := hd_8
      rw [e1, e2] at hw; clear e1 e2
      refine lv_if_eq (tgt := 66) hx hb dX8_usesArray_48 (by decide) (fun c_9 => ?_) (fun c_9 => ?_)
      · skip
        have c_9 := bI_f c_9
        refine lv_iconst (v := 0) hx hb dX8_usesArray_66 (by decide) ?_
        exact m_zret (b := false) X hr hlk hw hS (Nat.le_of_ble_eq_true rfl) (Nat.le_of_ble_eq_true rfl) rfl ⟨⟨_, rfl⟩, (h_8, d_8), by show d_8 ≤ 8; omega, rfl, rfl⟩ dX8_usesArray_67
      · skip
        have c_9 := bI_t c_9
        refine lv_aload_n hx hb dX8_usesArray_51 rfl (lv_at hl 0 rfl) ?_
        refine s_get (a := 0) (b := 7) (ci := 6) X hw rfl rfl gX8 0 (by decide) fl_X8_10 rfl rfl dX8_usesArray_52 ?_
        refine lv_iconst (v := 5) hx hb dX8_usesArray_55 (by decide) ?_
        refine m_calli (m_runV (i := nm 0 8) (ci := 4) (As := [.int 5]) (rest := []) X (k_X6_push Γ l L x 0 8 h_8 d_8 5 pO8 (by omega)) v_X6_push ml_X8_74 hw hS (p_obj Γ L (c := sP x 0 8 (h_8, d_8)) pO8) rfl rfl rfl hl.1 ⟨Nat.le_of_ble_eq_true rfl, Nat.le_of_ble_eq_true rfl⟩ (Nat.le_of_ble_eq_true rfl) ⟨Nat.le_of_ble_eq_true rfl, Nat.le_of_ble_eq_true rfl⟩ dX8_usesArray_56) hS (fun r_10 L1 M1 H locs hp_10 hw hS => ?_)
        obtain ⟨⟨t_10, rfl⟩, ⟨h_10, d_10⟩, hd_10, e1, e2⟩ := hp_10
        have hd_10 : d_10 ≤ 8 := hd_10
        rw [e1, e2] at hw; clear e1 e2
        refine lv_if_eq (tgt := 66) hx hb dX8_usesArray_59 (by decide) (fun c_11 => ?_) (fun c_11 => ?_)
        · skip
          have c_11 := bI_f c_11
          refine lv_iconst (v := 0) hx hb dX8_usesArray_66 (by decide) ?_
          exact m_zret (b := false) X hr hlk hw hS (Nat.le_of_ble_eq_true rfl) (Nat.le_of_ble_eq_true rfl) rfl ⟨⟨_, rfl⟩, (h_10, d_10), by show d_10 ≤ 8; omega, rfl, rfl⟩ dX8_usesArray_67
        · skip
          have c_11 := bI_t c_11
          refine lv_iconst (v := 1) hx hb dX8_usesArray_62 (by decide) ?_
          refine lv_goto (tgt := 67) hx hb dX8_usesArray_63 (by decide) ?_
          exact m_zret (b := true) X hr hlk hw hS (Nat.le_of_ble_eq_true rfl) (Nat.le_of_ble_eq_true rfl) rfl ⟨⟨_, rfl⟩, (h_10, d_10), by show d_10 ≤ 8; omega, rfl, rfl⟩ dX8_usesArray_67
    · have c_1e : o = 15 := Int32.toInt_inj.mp c_1v
      refine lv_tableIn (off := 67) (tgt := 68) hx hb dX8_usesArray_1 (by omega) (by omega) (by rw [c_1v]; rfl) (by decide) ?_
      refine lv_lload_n hx hb dX8_usesArray_68 rfl (lv_at hl 2 rfl) ?_
      refine m_calli (m_runS (As := [.long v]) (rest := []) X (k_X3_isClass Γ l L (cM Γ L (sP x 0 8 (h, d))) v) s_X3_isClass ml_X8_118 hw hS rfl hl.1 ⟨Nat.le_of_ble_eq_true rfl, Nat.le_of_ble_eq_true rfl⟩ (Nat.le_of_ble_eq_true rfl) ⟨Nat.le_of_ble_eq_true rfl, Nat.le_of_ble_eq_true rfl⟩ dX8_usesArray_69) hS (fun r_12 L1 M1 H locs hp_12 hw hS => ?_)
      obtain ⟨rfl, e1, e2⟩ := hp_12
      rw [e1, e2] at hw; clear e1 e2
      refine lv_if_eq (tgt := 105) hx hb dX8_usesArray_72 (by decide) (fun c_13 => ?_) (fun c_13 => ?_)
      · skip
        have c_13 := bI_f c_13
        refine lv_iconst (v := 0) hx hb dX8_usesArray_105 (by decide) ?_
        exact m_zret (b := false) X hr hlk hw hS (Nat.le_of_ble_eq_true rfl) (Nat.le_of_ble_eq_true rfl) rfl ⟨⟨_, rfl⟩, (h, d), by show d ≤ 8; omega, rfl, rfl⟩ dX8_usesArray_106
      · skip
        have c_13 := bI_t c_13
        refine lv_aload_n hx hb dX8_usesArray_75 rfl (lv_at hl 0 rfl) ?_
        refine s_get (a := 0) (b := 7) (ci := 6) X hw rfl rfl gX8 0 (by decide) fl_X8_10 rfl rfl dX8_usesArray_76 ?_
        refine lv_iconst (v := 1) hx hb dX8_usesArray_79 (by decide) ?_
        refine m_calli (m_runV (i := nm 0 8) (ci := 4) (As := [.int 1]) (rest := []) X (k_X6_pop Γ l L x 0 8 h d 1 pO8 (by omega) (by first | decide | assumption)) v_X6_pop ml_X8_115 hw hS (p_obj Γ L (c := sP x 0 8 (h, d)) pO8) rfl rfl rfl hl.1 ⟨Nat.le_of_ble_eq_true rfl, Nat.le_of_ble_eq_true rfl⟩ (Nat.le_of_ble_eq_true rfl) ⟨Nat.le_of_ble_eq_true rfl, Nat.le_of_ble_eq_true rfl⟩ dX8_usesArray_80) hS (fun r_14 L1 M1 H locs hp_14 hw hS => ?_)
        obtain ⟨⟨t_14, rfl⟩, ⟨h_14, d_14⟩, hd_14, e1, e2⟩ := hp_14
        have hd_14 : d_14 ≤ 8 := hd_14
        rw [e1, e2] at hw; clear e1 e2
        refine lv_if_eq (tgt := 105) hx hb dX8_usesArray_83 (by decide) (fun c_15 => ?_) (fun c_15 => ?_)
        · skip
          have c_15 := bI_f c_15
          refine lv_iconst (v := 0) hx hb dX8_usesArray_105 (by decide) ?_
          exact m_zret (b := false) X hr hlk hw hS (Nat.le_of_ble_eq_true rfl) (Nat.le_of_ble_eq_true rfl) rfl ⟨⟨_, rfl⟩, (h_14, d_14), by show d_14 ≤ 8; omega, rfl, rfl⟩ dX8_usesArray_106
        · skip
          have c_15 := bI_t c_15
          refine lv_aload_n hx hb dX8_usesArray_86 rfl (lv_at hl 0 rfl) ?_
          refine s_get (a := 0) (b := 7) (ci := 6) X hw rfl rfl gX8 0 (by decide) fl_X8_10 rfl rfl dX8_usesArray_87 ?_
          refine lv_bipush (v := 20) hx hb dX8_usesArray_90 (by decide) ?_
          refine lv_lload_n hx hb dX8_usesArray_92 rfl (lv_at hl 2 rfl) ?_
          refine lv_l2i (v := v.toInt32) hx hb dX8_usesArray_93 rfl ?_
          refine lv_iadd hx hb dX8_usesArray_94 ?_
          refine m_calli (m_runV (i := nm 0 8) (ci := 4) (As := [.int (20 + v.toInt32)]) (rest := []) X (k_X6_push Γ l L x 0 8 h_14 d_14 (20 + v.toInt32) pO8 (by omega)) v_X6_push ml_X8_74 hw hS (p_obj Γ L (c := sP x 0 8 (h_14, d_14)) pO8) rfl rfl rfl hl.1 ⟨Nat.le_of_ble_eq_true rfl, Nat.le_of_ble_eq_true rfl⟩ (Nat.le_of_ble_eq_true rfl) ⟨Nat.le_of_ble_eq_true rfl, Nat.le_of_ble_eq_true rfl⟩ dX8_usesArray_95) hS (fun r_16 L1 M1 H locs hp_16 hw hS => ?_)
          obtain ⟨⟨t_16, rfl⟩, ⟨h_16, d_16⟩, hd_16, e1, e2⟩ := hp_16
          have hd_16 : d_16 ≤ 8 := hd_16
          rw [e1, e2] at hw; clear e1 e2
          refine lv_if_eq (tgt := 105) hx hb dX8_usesArray_98 (by decide) (fun c_17 => ?_) (fun c_17 => ?_)
          · skip
            have c_17 := bI_f c_17
            refine lv_iconst (v := 0) hx hb dX8_usesArray_105 (by decide) ?_
            exact m_zret (b := false) X hr hlk hw hS (Nat.le_of_ble_eq_true rfl) (Nat.le_of_ble_eq_true rfl) rfl ⟨⟨_, rfl⟩, (h_16, d_16), by show d_16 ≤ 8; omega, rfl, rfl⟩ dX8_usesArray_106
          · skip
            have c_17 := bI_t c_17
            refine lv_iconst (v := 1) hx hb dX8_usesArray_101 (by decide) ?_
            refine lv_goto (tgt := 106) hx hb dX8_usesArray_102 (by decide) ?_
            exact m_zret (b := true) X hr hlk hw hS (Nat.le_of_ble_eq_true rfl) (Nat.le_of_ble_eq_true rfl) rfl ⟨⟨_, rfl⟩, (h_16, d_16), by show d_16 ≤ 8; omega, rfl, rfl⟩ dX8_usesArray_106
    · have c_1e : o = 16 := Int32.toInt_inj.mp c_1v
      refine lv_tableIn (off := 106) (tgt := 107) hx hb dX8_usesArray_1 (by omega) (by omega) (by rw [c_1v]; rfl) (by decide) ?_
      refine lv_aload_n hx hb dX8_usesArray_107 rfl (lv_at hl 0 rfl) ?_
      refine s_get (a := 0) (b := 7) (ci := 6) X hw rfl rfl gX8 0 (by decide) fl_X8_10 rfl rfl dX8_usesArray_108 ?_
      refine lv_iconst (v := 5) hx hb dX8_usesArray_111 (by decide) ?_
      refine m_calli (m_runV (i := nm 0 8) (ci := 4) (As := [.int 5]) (rest := []) X (k_X6_pop Γ l L x 0 8 h d 5 pO8 (by omega) (by first | decide | assumption)) v_X6_pop ml_X8_115 hw hS (p_obj Γ L (c := sP x 0 8 (h, d)) pO8) rfl rfl rfl hl.1 ⟨Nat.le_of_ble_eq_true rfl, Nat.le_of_ble_eq_true rfl⟩ (Nat.le_of_ble_eq_true rfl) ⟨Nat.le_of_ble_eq_true rfl, Nat.le_of_ble_eq_true rfl⟩ dX8_usesArray_112) hS (fun r_18 L1 M1 H locs hp_18 hw hS => ?_)
      obtain ⟨⟨t_18, rfl⟩, ⟨h_18, d_18⟩, hd_18, e1, e2⟩ := hp_18
      have hd_18 : d_18 ≤ 8 := hd_18
      rw [e1, e2] at hw; clear e1 e2
      refine lv_if_ne (tgt := 128) hx hb dX8_usesArray_115 (by decide) (fun c_19 => ?_) (fun c_19 => ?_)
      · skip
        have c_19 := bI_t c_19
        refine lv_aload_n hx hb dX8_usesArray_128 rfl (lv_at hl 0 rfl) ?_
        refine s_get (a := 0) (b := 7) (ci := 6) X hw rfl rfl gX8 0 (by decide) fl_X8_10 rfl rfl dX8_usesArray_129 ?_
        refine lv_iconst (v := 1) hx hb dX8_usesArray_132 (by decide) ?_
        refine m_calli (m_runV (i := nm 0 8) (ci := 4) (As := [.int 1]) (rest := []) X (k_X6_push Γ l L x 0 8 h_18 d_18 1 pO8 (by omega)) v_X6_push ml_X8_74 hw hS (p_obj Γ L (c := sP x 0 8 (h_18, d_18)) pO8) rfl rfl rfl hl.1 ⟨Nat.le_of_ble_eq_true rfl, Nat.le_of_ble_eq_true rfl⟩ (Nat.le_of_ble_eq_true rfl) ⟨Nat.le_of_ble_eq_true rfl, Nat.le_of_ble_eq_true rfl⟩ dX8_usesArray_133) hS (fun r_20 L1 M1 H locs hp_20 hw hS => ?_)
        obtain ⟨⟨t_20, rfl⟩, ⟨h_20, d_20⟩, hd_20, e1, e2⟩ := hp_20
        have hd_20 : d_20 ≤ 8 := hd_20
        rw [e1, e2] at hw; clear e1 e2
        refine lv_if_eq (tgt := 143) hx hb dX8_usesArray_136 (by decide) (fun c_21 => ?_) (fun c_21 => ?_)
        · skip
          have c_21 := bI_f c_21
          refine lv_iconst (v := 0) hx hb dX8_usesArray_143 (by decide) ?_
          exact m_zret (b := false) X hr hlk hw hS (Nat.le_of_ble_eq_true rfl) (Nat.le_of_ble_eq_true rfl) rfl ⟨⟨_, rfl⟩, (h_20, d_20), by show d_20 ≤ 8; omega, rfl, rfl⟩ dX8_usesArray_144
        · skip
          have c_21 := bI_t c_21
          refine lv_iconst (v := 1) hx hb dX8_usesArray_139 (by decide) ?_
          refine lv_goto (tgt := 144) hx hb dX8_usesArray_140 (by decide) ?_
          exact m_zret (b := true) X hr hlk hw hS (Nat.le_of_ble_eq_true rfl) (Nat.le_of_ble_eq_true rfl) rfl ⟨⟨_, rfl⟩, (h_20, d_20), by show d_20 ≤ 8; omega, rfl, rfl⟩ dX8_usesArray_144
      · skip
        have c_19 := bI_f c_19
        refine lv_aload_n hx hb dX8_usesArray_118 rfl (lv_at hl 0 rfl) ?_
        refine s_get (a := 0) (b := 7) (ci := 6) X hw rfl rfl gX8 0 (by decide) fl_X8_10 rfl rfl dX8_usesArray_119 ?_
        refine m_calli (m_runV (i := nm 0 8) (ci := 4) (As := []) (rest := []) X (k_X6_popRow Γ l L x 0 8 h_18 d_18  pO8 (by omega)) v_X6_popRow ml_X8_130 hw hS (p_obj Γ L (c := sP x 0 8 (h_18, d_18)) pO8) rfl rfl rfl hl.1 ⟨Nat.le_of_ble_eq_true rfl, Nat.le_of_ble_eq_true rfl⟩ (Nat.le_of_ble_eq_true rfl) ⟨Nat.le_of_ble_eq_true rfl, Nat.le_of_ble_eq_true rfl⟩ dX8_usesArray_122) hS (fun r_22 L1 M1 H locs hp_22 hw hS => ?_)
        obtain ⟨⟨h_22, d_22⟩, hd_22, e1, e2⟩ := hp_22
        have hd_22 : d_22 ≤ 8 := hd_22
        rw [e1, e2] at hw; clear e1 e2
        refine lv_if_eq (tgt := 143) hx hb dX8_usesArray_125 (by decide) (fun c_23 => ?_) (fun c_23 => ?_)
        · skip
          refine lv_iconst (v := 0) hx hb dX8_usesArray_143 (by decide) ?_
          exact m_zret (b := false) X hr hlk hw hS (Nat.le_of_ble_eq_true rfl) (Nat.le_of_ble_eq_true rfl) rfl ⟨⟨_, rfl⟩, (h_22, d_22), by show d_22 ≤ 8; omega, rfl, rfl⟩ dX8_usesArray_144
        · skip
          refine lv_aload_n hx hb dX8_usesArray_128 rfl (lv_at hl 0 rfl) ?_
          refine s_get (a := 0) (b := 7) (ci := 6) X hw rfl rfl gX8 0 (by decide) fl_X8_10 rfl rfl dX8_usesArray_129 ?_
          refine lv_iconst (v := 1) hx hb dX8_usesArray_132 (by decide) ?_
          refine m_calli (m_runV (i := nm 0 8) (ci := 4) (As := [.int 1]) (rest := []) X (k_X6_push Γ l L x 0 8 h_22 d_22 1 pO8 (by omega)) v_X6_push ml_X8_74 hw hS (p_obj Γ L (c := sP x 0 8 (h_22, d_22)) pO8) rfl rfl rfl hl.1 ⟨Nat.le_of_ble_eq_true rfl, Nat.le_of_ble_eq_true rfl⟩ (Nat.le_of_ble_eq_true rfl) ⟨Nat.le_of_ble_eq_true rfl, Nat.le_of_ble_eq_true rfl⟩ dX8_usesArray_133) hS (fun r_24 L1 M1 H locs hp_24 hw hS => ?_)
          obtain ⟨⟨t_24, rfl⟩, ⟨h_24, d_24⟩, hd_24, e1, e2⟩ := hp_24
          have hd_24 : d_24 ≤ 8 := hd_24
          rw [e1, e2] at hw; clear e1 e2
          refine lv_if_eq (tgt := 143) hx hb dX8_usesArray_136 (by decide) (fun c_25 => ?_) (fun c_25 => ?_)
          · skip
            have c_25 := bI_f c_25
            refine lv_iconst (v := 0) hx hb dX8_usesArray_143 (by decide) ?_
            exact m_zret (b := false) X hr hlk hw hS (Nat.le_of_ble_eq_true rfl) (Nat.le_of_ble_eq_true rfl) rfl ⟨⟨_, rfl⟩, (h_24, d_24), by show d_24 ≤ 8; omega, rfl, rfl⟩ dX8_usesArray_144
          · skip
            have c_25 := bI_t c_25
            refine lv_iconst (v := 1) hx hb dX8_usesArray_139 (by decide) ?_
            refine lv_goto (tgt := 144) hx hb dX8_usesArray_140 (by decide) ?_
            exact m_zret (b := true) X hr hlk hw hS (Nat.le_of_ble_eq_true rfl) (Nat.le_of_ble_eq_true rfl) rfl ⟨⟨_, rfl⟩, (h_24, d_24), by show d_24 ≤ 8; omega, rfl, rfl⟩ dX8_usesArray_144
    · have c_1e : o = 17 := Int32.toInt_inj.mp c_1v
      refine lv_tableIn (off := 144) (tgt := 145) hx hb dX8_usesArray_1 (by omega) (by omega) (by rw [c_1v]; rfl) (by decide) ?_
      refine lv_aload_n hx hb dX8_usesArray_145 rfl (lv_at hl 0 rfl) ?_
      refine s_get (a := 0) (b := 7) (ci := 6) X hw rfl rfl gX8 0 (by decide) fl_X8_10 rfl rfl dX8_usesArray_146 ?_
      refine lv_iconst (v := 1) hx hb dX8_usesArray_149 (by decide) ?_
      refine m_calli (m_runV (i := nm 0 8) (ci := 4) (As := [.int 1]) (rest := []) X (k_X6_pop Γ l L x 0 8 h d 1 pO8 (by omega) (by first | decide | assumption)) v_X6_pop ml_X8_115 hw hS (p_obj Γ L (c := sP x 0 8 (h, d)) pO8) rfl rfl rfl hl.1 ⟨Nat.le_of_ble_eq_true rfl, Nat.le_of_ble_eq_true rfl⟩ (Nat.le_of_ble_eq_true rfl) ⟨Nat.le_of_ble_eq_true rfl, Nat.le_of_ble_eq_true rfl⟩ dX8_usesArray_150) hS (fun r_26 L1 M1 H locs hp_26 hw hS => ?_)
      obtain ⟨⟨t_26, rfl⟩, ⟨h_26, d_26⟩, hd_26, e1, e2⟩ := hp_26
      have hd_26 : d_26 ≤ 8 := hd_26
      rw [e1, e2] at hw; clear e1 e2
      refine lv_if_eq (tgt := 182) hx hb dX8_usesArray_153 (by decide) (fun c_27 => ?_) (fun c_27 => ?_)
      · skip
        have c_27 := bI_f c_27
        refine lv_iconst (v := 0) hx hb dX8_usesArray_182 (by decide) ?_
        exact m_zret (b := false) X hr hlk hw hS (Nat.le_of_ble_eq_true rfl) (Nat.le_of_ble_eq_true rfl) rfl ⟨⟨_, rfl⟩, (h_26, d_26), by show d_26 ≤ 8; omega, rfl, rfl⟩ dX8_usesArray_183
      · skip
        have c_27 := bI_t c_27
        refine lv_aload_n hx hb dX8_usesArray_156 rfl (lv_at hl 0 rfl) ?_
        refine s_get (a := 0) (b := 7) (ci := 6) X hw rfl rfl gX8 0 (by decide) fl_X8_10 rfl rfl dX8_usesArray_157 ?_
        refine lv_iconst (v := 5) hx hb dX8_usesArray_160 (by decide) ?_
        refine m_calli (m_runV (i := nm 0 8) (ci := 4) (As := [.int 5]) (rest := []) X (k_X6_pop Γ l L x 0 8 h_26 d_26 5 pO8 (by omega) (by first | decide | assumption)) v_X6_pop ml_X8_115 hw hS (p_obj Γ L (c := sP x 0 8 (h_26, d_26)) pO8) rfl rfl rfl hl.1 ⟨Nat.le_of_ble_eq_true rfl, Nat.le_of_ble_eq_true rfl⟩ (Nat.le_of_ble_eq_true rfl) ⟨Nat.le_of_ble_eq_true rfl, Nat.le_of_ble_eq_true rfl⟩ dX8_usesArray_161) hS (fun r_28 L1 M1 H locs hp_28 hw hS => ?_)
        obtain ⟨⟨t_28, rfl⟩, ⟨h_28, d_28⟩, hd_28, e1, e2⟩ := hp_28
        have hd_28 : d_28 ≤ 8 := hd_28
        rw [e1, e2] at hw; clear e1 e2
        refine lv_if_eq (tgt := 182) hx hb dX8_usesArray_164 (by decide) (fun c_29 => ?_) (fun c_29 => ?_)
        · skip
          have c_29 := bI_f c_29
          refine lv_iconst (v := 0) hx hb dX8_usesArray_182 (by decide) ?_
          exact m_zret (b := false) X hr hlk hw hS (Nat.le_of_ble_eq_true rfl) (Nat.le_of_ble_eq_true rfl) rfl ⟨⟨_, rfl⟩, (h_28, d_28), by show d_28 ≤ 8; omega, rfl, rfl⟩ dX8_usesArray_183
        · skip
          have c_29 := bI_t c_29
          refine lv_aload_n hx hb dX8_usesArray_167 rfl (lv_at hl 0 rfl) ?_
          refine s_get (a := 0) (b := 7) (ci := 6) X hw rfl rfl gX8 0 (by decide) fl_X8_10 rfl rfl dX8_usesArray_168 ?_
          refine lv_iconst (v := 1) hx hb dX8_usesArray_171 (by decide) ?_
          refine m_calli (m_runV (i := nm 0 8) (ci := 4) (As := [.int 1]) (rest := []) X (k_X6_push Γ l L x 0 8 h_28 d_28 1 pO8 (by omega)) v_X6_push ml_X8_74 hw hS (p_obj Γ L (c := sP x 0 8 (h_28, d_28)) pO8) rfl rfl rfl hl.1 ⟨Nat.le_of_ble_eq_true rfl, Nat.le_of_ble_eq_true rfl⟩ (Nat.le_of_ble_eq_true rfl) ⟨Nat.le_of_ble_eq_true rfl, Nat.le_of_ble_eq_true rfl⟩ dX8_usesArray_172) hS (fun r_30 L1 M1 H locs hp_30 hw hS => ?_)
          obtain ⟨⟨t_30, rfl⟩, ⟨h_30, d_30⟩, hd_30, e1, e2⟩ := hp_30
          have hd_30 : d_30 ≤ 8 := hd_30
          rw [e1, e2] at hw; clear e1 e2
          refine lv_if_eq (tgt := 182) hx hb dX8_usesArray_175 (by decide) (fun c_31 => ?_) (fun c_31 => ?_)
          · skip
            have c_31 := bI_f c_31
            refine lv_iconst (v := 0) hx hb dX8_usesArray_182 (by decide) ?_
            exact m_zret (b := false) X hr hlk hw hS (Nat.le_of_ble_eq_true rfl) (Nat.le_of_ble_eq_true rfl) rfl ⟨⟨_, rfl⟩, (h_30, d_30), by show d_30 ≤ 8; omega, rfl, rfl⟩ dX8_usesArray_183
          · skip
            have c_31 := bI_t c_31
            refine lv_iconst (v := 1) hx hb dX8_usesArray_178 (by decide) ?_
            refine lv_goto (tgt := 183) hx hb dX8_usesArray_179 (by decide) ?_
            exact m_zret (b := true) X hr hlk hw hS (Nat.le_of_ble_eq_true rfl) (Nat.le_of_ble_eq_true rfl) rfl ⟨⟨_, rfl⟩, (h_30, d_30), by show d_30 ≤ 8; omega, rfl, rfl⟩ dX8_usesArray_183
    · have c_1e : o = 18 := Int32.toInt_inj.mp c_1v
      refine lv_tableIn (off := 183) (tgt := 184) hx hb dX8_usesArray_1 (by omega) (by omega) (by rw [c_1v]; rfl) (by decide) ?_
      refine lv_aload_n hx hb dX8_usesArray_184 rfl (lv_at hl 0 rfl) ?_
      refine s_get (a := 0) (b := 7) (ci := 6) X hw rfl rfl gX8 0 (by decide) fl_X8_10 rfl rfl dX8_usesArray_185 ?_
      refine lv_iconst (v := 1) hx hb dX8_usesArray_188 (by decide) ?_
      refine m_calli (m_runV (i := nm 0 8) (ci := 4) (As := [.int 1]) (rest := []) X (k_X6_pop Γ l L x 0 8 h d 1 pO8 (by omega) (by first | decide | assumption)) v_X6_pop ml_X8_115 hw hS (p_obj Γ L (c := sP x 0 8 (h, d)) pO8) rfl rfl rfl hl.1 ⟨Nat.le_of_ble_eq_true rfl, Nat.le_of_ble_eq_true rfl⟩ (Nat.le_of_ble_eq_true rfl) ⟨Nat.le_of_ble_eq_true rfl, Nat.le_of_ble_eq_true rfl⟩ dX8_usesArray_189) hS (fun r_32 L1 M1 H locs hp_32 hw hS => ?_)
      obtain ⟨⟨t_32, rfl⟩, ⟨h_32, d_32⟩, hd_32, e1, e2⟩ := hp_32
      have hd_32 : d_32 ≤ 8 := hd_32
      rw [e1, e2] at hw; clear e1 e2
      refine lv_if_eq (tgt := 221) hx hb dX8_usesArray_192 (by decide) (fun c_33 => ?_) (fun c_33 => ?_)
      · skip
        have c_33 := bI_f c_33
        refine lv_iconst (v := 0) hx hb dX8_usesArray_221 (by decide) ?_
        exact m_zret (b := false) X hr hlk hw hS (Nat.le_of_ble_eq_true rfl) (Nat.le_of_ble_eq_true rfl) rfl ⟨⟨_, rfl⟩, (h_32, d_32), by show d_32 ≤ 8; omega, rfl, rfl⟩ dX8_usesArray_222
      · skip
        have c_33 := bI_t c_33
        refine lv_aload_n hx hb dX8_usesArray_195 rfl (lv_at hl 0 rfl) ?_
        refine s_get (a := 0) (b := 7) (ci := 6) X hw rfl rfl gX8 0 (by decide) fl_X8_10 rfl rfl dX8_usesArray_196 ?_
        refine lv_iconst (v := 1) hx hb dX8_usesArray_199 (by decide) ?_
        refine m_calli (m_runV (i := nm 0 8) (ci := 4) (As := [.int 1]) (rest := []) X (k_X6_pop Γ l L x 0 8 h_32 d_32 1 pO8 (by omega) (by first | decide | assumption)) v_X6_pop ml_X8_115 hw hS (p_obj Γ L (c := sP x 0 8 (h_32, d_32)) pO8) rfl rfl rfl hl.1 ⟨Nat.le_of_ble_eq_true rfl, Nat.le_of_ble_eq_true rfl⟩ (Nat.le_of_ble_eq_true rfl) ⟨Nat.le_of_ble_eq_true rfl, Nat.le_of_ble_eq_true rfl⟩ dX8_usesArray_200) hS (fun r_34 L1 M1 H locs hp_34 hw hS => ?_)
        obtain ⟨⟨t_34, rfl⟩, ⟨h_34, d_34⟩, hd_34, e1, e2⟩ := hp_34
        have hd_34 : d_34 ≤ 8 := hd_34
        rw [e1, e2] at hw; clear e1 e2
        refine lv_if_eq (tgt := 221) hx hb dX8_usesArray_203 (by decide) (fun c_35 => ?_) (fun c_35 => ?_)
        · skip
          have c_35 := bI_f c_35
          refine lv_iconst (v := 0) hx hb dX8_usesArray_221 (by decide) ?_
          exact m_zret (b := false) X hr hlk hw hS (Nat.le_of_ble_eq_true rfl) (Nat.le_of_ble_eq_true rfl) rfl ⟨⟨_, rfl⟩, (h_34, d_34), by show d_34 ≤ 8; omega, rfl, rfl⟩ dX8_usesArray_222
        · skip
          have c_35 := bI_t c_35
          refine lv_aload_n hx hb dX8_usesArray_206 rfl (lv_at hl 0 rfl) ?_
          refine s_get (a := 0) (b := 7) (ci := 6) X hw rfl rfl gX8 0 (by decide) fl_X8_10 rfl rfl dX8_usesArray_207 ?_
          refine lv_iconst (v := 5) hx hb dX8_usesArray_210 (by decide) ?_
          refine m_calli (m_runV (i := nm 0 8) (ci := 4) (As := [.int 5]) (rest := []) X (k_X6_pop Γ l L x 0 8 h_34 d_34 5 pO8 (by omega) (by first | decide | assumption)) v_X6_pop ml_X8_115 hw hS (p_obj Γ L (c := sP x 0 8 (h_34, d_34)) pO8) rfl rfl rfl hl.1 ⟨Nat.le_of_ble_eq_true rfl, Nat.le_of_ble_eq_true rfl⟩ (Nat.le_of_ble_eq_true rfl) ⟨Nat.le_of_ble_eq_true rfl, Nat.le_of_ble_eq_true rfl⟩ dX8_usesArray_211) hS (fun r_36 L1 M1 H locs hp_36 hw hS => ?_)
          obtain ⟨⟨t_36, rfl⟩, ⟨h_36, d_36⟩, hd_36, e1, e2⟩ := hp_36
          have hd_36 : d_36 ≤ 8 := hd_36
          rw [e1, e2] at hw; clear e1 e2
          refine lv_if_eq (tgt := 221) hx hb dX8_usesArray_214 (by decide) (fun c_37 => ?_) (fun c_37 => ?_)
          · skip
            have c_37 := bI_f c_37
            refine lv_iconst (v := 0) hx hb dX8_usesArray_221 (by decide) ?_
            exact m_zret (b := false) X hr hlk hw hS (Nat.le_of_ble_eq_true rfl) (Nat.le_of_ble_eq_true rfl) rfl ⟨⟨_, rfl⟩, (h_36, d_36), by show d_36 ≤ 8; omega, rfl, rfl⟩ dX8_usesArray_222
          · skip
            have c_37 := bI_t c_37
            refine lv_iconst (v := 1) hx hb dX8_usesArray_217 (by decide) ?_
            refine lv_goto (tgt := 222) hx hb dX8_usesArray_218 (by decide) ?_
            exact m_zret (b := true) X hr hlk hw hS (Nat.le_of_ble_eq_true rfl) (Nat.le_of_ble_eq_true rfl) rfl ⟨⟨_, rfl⟩, (h_36, d_36), by show d_36 ≤ 8; omega, rfl, rfl⟩ dX8_usesArray_222
    · have c_1e : o = 19 := Int32.toInt_inj.mp c_1v
      refine lv_tableIn (off := 222) (tgt := 223) hx hb dX8_usesArray_1 (by omega) (by omega) (by rw [c_1v]; rfl) (by decide) ?_
      refine lv_aload_n hx hb dX8_usesArray_223 rfl (lv_at hl 0 rfl) ?_
      refine s_get (a := 0) (b := 7) (ci := 6) X hw rfl rfl gX8 0 (by decide) fl_X8_10 rfl rfl dX8_usesArray_224 ?_
      refine lv_iconst (v := 1) hx hb dX8_usesArray_227 (by decide) ?_
      refine m_calli (m_runV (i := nm 0 8) (ci := 4) (As := [.int 1]) (rest := []) X (k_X6_pop Γ l L x 0 8 h d 1 pO8 (by omega) (by first | decide | assumption)) v_X6_pop ml_X8_115 hw hS (p_obj Γ L (c := sP x 0 8 (h, d)) pO8) rfl rfl rfl hl.1 ⟨Nat.le_of_ble_eq_true rfl, Nat.le_of_ble_eq_true rfl⟩ (Nat.le_of_ble_eq_true rfl) ⟨Nat.le_of_ble_eq_true rfl, Nat.le_of_ble_eq_true rfl⟩ dX8_usesArray_228) hS (fun r_38 L1 M1 H locs hp_38 hw hS => ?_)
      obtain ⟨⟨t_38, rfl⟩, ⟨h_38, d_38⟩, hd_38, e1, e2⟩ := hp_38
      have hd_38 : d_38 ≤ 8 := hd_38
      rw [e1, e2] at hw; clear e1 e2
      refine lv_if_eq (tgt := 252) hx hb dX8_usesArray_231 (by decide) (fun c_39 => ?_) (fun c_39 => ?_)
      · skip
        have c_39 := bI_f c_39
        refine lv_iconst (v := 0) hx hb dX8_usesArray_252 (by decide) ?_
        exact m_zret (b := false) X hr hlk hw hS (Nat.le_of_ble_eq_true rfl) (Nat.le_of_ble_eq_true rfl) rfl ⟨⟨_, rfl⟩, (h_38, d_38), by show d_38 ≤ 8; omega, rfl, rfl⟩ dX8_usesArray_253
      · skip
        have c_39 := bI_t c_39
        refine lv_aload_n hx hb dX8_usesArray_234 rfl (lv_at hl 0 rfl) ?_
        refine lv_aload_n hx hb dX8_usesArray_235 rfl (lv_at hl 0 rfl) ?_
        refine s_get (a := 0) (b := 7) (ci := 6) X hw rfl rfl gX8 0 (by decide) fl_X8_10 rfl rfl dX8_usesArray_236 ?_
        refine m_calli (m_runV (i := nm 0 8) (ci := 4) (As := []) (rest := [.ref (L (nm 0 7))]) X (k_X6_popRow Γ l L x 0 8 h_38 d_38  pO8 (by omega)) v_X6_popRow ml_X8_130 hw hS (p_obj Γ L (c := sP x 0 8 (h_38, d_38)) pO8) rfl rfl rfl hl.1 ⟨Nat.le_of_ble_eq_true rfl, Nat.le_of_ble_eq_true rfl⟩ (Nat.le_of_ble_eq_true rfl) ⟨Nat.le_of_ble_eq_true rfl, Nat.le_of_ble_eq_true rfl⟩ dX8_usesArray_239) hS (fun r_40 L1 M1 H locs hp_40 hw hS => ?_)
        obtain ⟨⟨h_40, d_40⟩, hd_40, e1, e2⟩ := hp_40
        have hd_40 : d_40 ≤ 8 := hd_40
        rw [e1, e2] at hw; clear e1 e2
        refine m_calli (m_runV (i := nm 0 7) (ci := 6) (As := [.int r_40]) (rest := []) X (k_X8_takes Γ l L x h_40 d_40 r_40 (by omega)) v_X8_takes ml_X8_133 hw hS rfl rfl rfl rfl hl.1 ⟨Nat.le_of_ble_eq_true rfl, Nat.le_of_ble_eq_true rfl⟩ (Nat.le_of_ble_eq_true rfl) ⟨Nat.le_of_ble_eq_true rfl, Nat.le_of_ble_eq_true rfl⟩ dX8_usesArray_242) hS (fun r_41 L1 M1 H locs hp_41 hw hS => ?_)
        obtain ⟨⟨t_41, rfl⟩, ⟨h_41, d_41⟩, hd_41, e1, e2⟩ := hp_41
        have hd_41 : d_41 ≤ 8 := hd_41
        rw [e1, e2] at hw; clear e1 e2
        refine lv_if_eq (tgt := 252) hx hb dX8_usesArray_245 (by decide) (fun c_42 => ?_) (fun c_42 => ?_)
        · skip
          have c_42 := bI_f c_42
          refine lv_iconst (v := 0) hx hb dX8_usesArray_252 (by decide) ?_
          exact m_zret (b := false) X hr hlk hw hS (Nat.le_of_ble_eq_true rfl) (Nat.le_of_ble_eq_true rfl) rfl ⟨⟨_, rfl⟩, (h_41, d_41), by show d_41 ≤ 8; omega, rfl, rfl⟩ dX8_usesArray_253
        · skip
          have c_42 := bI_t c_42
          refine lv_iconst (v := 1) hx hb dX8_usesArray_248 (by decide) ?_
          refine lv_goto (tgt := 253) hx hb dX8_usesArray_249 (by decide) ?_
          exact m_zret (b := true) X hr hlk hw hS (Nat.le_of_ble_eq_true rfl) (Nat.le_of_ble_eq_true rfl) rfl ⟨⟨_, rfl⟩, (h_41, d_41), by show d_41 ≤ 8; omega, rfl, rfl⟩ dX8_usesArray_253
theorem v_X8_usesObject : mVm yX8_usesObject cX8_usesObject 4 (some .boolean) 2 := ⟨cd_X8_usesObject, im_X8_usesObject, se_X8_usesObject, ini_X8, by decide, by decide, by decide +kernel⟩
set_option maxHeartbeats 4000000 in
set_option maxRecDepth 100000 in
theorem k_X8_usesObject (Γ : mG) (l : Launch) (L : mI → Nat) (x : CS) (h : Nat → Int32) (d : Nat) (o : Int32) (v : Int64) (hd : d ≤ 8) : mMet Γ l yX8_usesObject cX8_usesObject 4 (some .boolean) { frames := 3, cells := 0, slots := 0, locals := 63 } [.ref (L (nm 0 7)), .int o, .long v] L (cM Γ L (sP x 0 8 (h, d))) (mQi Γ (mPz Γ L x 0 8)) := by
  refine m_start (by decide) (Nat.le_of_ble_eq_true rfl) ?_
  intro p e s m args below meth c A ls X hr hlk hnm hw hS hl
  have hx := X.1.1
  have hb := X.1.2.1
  have hl : lv_has ls 4 [(0, .ref (L (nm 0 7))), (1, .int o), (2, .long v)] := hl
  refine lv_iload_n hx hb dX8_usesObject_0 rfl (lv_at hl 1 rfl) ?_
  by_cases c_1 : o.toInt < 21 ∨ 24 < o.toInt
  · refine lv_tableOut (tgt := 137) hx hb dX8_usesObject_1 c_1 (by decide) ?_
    refine lv_aload_n hx hb dX8_usesObject_137 rfl (lv_at hl 0 rfl) ?_
    refine s_get (a := 0) (b := 7) (ci := 6) X hw rfl rfl gX8 0 (by decide) fl_X8_10 rfl rfl dX8_usesObject_138 ?_
    refine lv_bipush (v := 11) hx hb dX8_usesObject_141 (by decide) ?_
    refine m_calli (m_runV (i := nm 0 8) (ci := 4) (As := [.int 11]) (rest := []) X (k_X6_pop Γ l L x 0 8 h d 11 pO8 (by omega) (by first | decide | assumption)) v_X6_pop ml_X8_115 hw hS (p_obj Γ L (c := sP x 0 8 (h, d)) pO8) rfl rfl rfl hl.1 ⟨Nat.le_of_ble_eq_true rfl, Nat.le_of_ble_eq_true rfl⟩ (Nat.le_of_ble_eq_true rfl) ⟨Nat.le_of_ble_eq_true rfl, Nat.le_of_ble_eq_true rfl⟩ dX8_usesObject_143) hS (fun r_2 L1 M1 H locs hp_2 hw hS => ?_)
    obtain ⟨⟨t_2, rfl⟩, ⟨h_2, d_2⟩, hd_2, e1, e2⟩ := hp_2
    have hd_2 : d_2 ≤ 8 := hd_2
    rw [e1, e2] at hw; clear e1 e2
    refine lv_if_eq (tgt := 164) hx hb dX8_usesObject_146 (by decide) (fun c_3 => ?_) (fun c_3 => ?_)
    · skip
      have c_3 := bI_f c_3
      refine lv_iconst (v := 0) hx hb dX8_usesObject_164 (by decide) ?_
      exact m_zret (b := false) X hr hlk hw hS (Nat.le_of_ble_eq_true rfl) (Nat.le_of_ble_eq_true rfl) rfl ⟨⟨_, rfl⟩, (h_2, d_2), by show d_2 ≤ 8; omega, rfl, rfl⟩ dX8_usesObject_165
    · skip
      have c_3 := bI_t c_3
      refine lv_aload_n hx hb dX8_usesObject_149 rfl (lv_at hl 0 rfl) ?_
      refine s_get (a := 0) (b := 7) (ci := 6) X hw rfl rfl gX8 0 (by decide) fl_X8_10 rfl rfl dX8_usesObject_150 ?_
      refine lv_iconst (v := 1) hx hb dX8_usesObject_153 (by decide) ?_
      refine m_calli (m_runV (i := nm 0 8) (ci := 4) (As := [.int 1]) (rest := []) X (k_X6_push Γ l L x 0 8 h_2 d_2 1 pO8 (by omega)) v_X6_push ml_X8_74 hw hS (p_obj Γ L (c := sP x 0 8 (h_2, d_2)) pO8) rfl rfl rfl hl.1 ⟨Nat.le_of_ble_eq_true rfl, Nat.le_of_ble_eq_true rfl⟩ (Nat.le_of_ble_eq_true rfl) ⟨Nat.le_of_ble_eq_true rfl, Nat.le_of_ble_eq_true rfl⟩ dX8_usesObject_154) hS (fun r_4 L1 M1 H locs hp_4 hw hS => ?_)
      obtain ⟨⟨t_4, rfl⟩, ⟨h_4, d_4⟩, hd_4, e1, e2⟩ := hp_4
      have hd_4 : d_4 ≤ 8 := hd_4
      rw [e1, e2] at hw; clear e1 e2
      refine lv_if_eq (tgt := 164) hx hb dX8_usesObject_157 (by decide) (fun c_5 => ?_) (fun c_5 => ?_)
      · skip
        have c_5 := bI_f c_5
        refine lv_iconst (v := 0) hx hb dX8_usesObject_164 (by decide) ?_
        exact m_zret (b := false) X hr hlk hw hS (Nat.le_of_ble_eq_true rfl) (Nat.le_of_ble_eq_true rfl) rfl ⟨⟨_, rfl⟩, (h_4, d_4), by show d_4 ≤ 8; omega, rfl, rfl⟩ dX8_usesObject_165
      · skip
        have c_5 := bI_t c_5
        refine lv_iconst (v := 1) hx hb dX8_usesObject_160 (by decide) ?_
        refine lv_goto (tgt := 165) hx hb dX8_usesObject_161 (by decide) ?_
        exact m_zret (b := true) X hr hlk hw hS (Nat.le_of_ble_eq_true rfl) (Nat.le_of_ble_eq_true rfl) rfl ⟨⟨_, rfl⟩, (h_4, d_4), by show d_4 ≤ 8; omega, rfl, rfl⟩ dX8_usesObject_165
  · have c_1b : o.toInt = 21 ∨ o.toInt = 22 ∨ o.toInt = 23 ∨ o.toInt = 24 := by omega
    rcases c_1b with c_1v | c_1v | c_1v | c_1v
    · have c_1e : o = 21 := Int32.toInt_inj.mp c_1v
      refine lv_tableIn (off := 31) (tgt := 32) hx hb dX8_usesObject_1 (by omega) (by omega) (by rw [c_1v]; rfl) (by decide) ?_
      refine lv_lload_n hx hb dX8_usesObject_32 rfl (lv_at hl 2 rfl) ?_
      refine m_calli (m_runS (As := [.long v]) (rest := []) X (k_X3_isClassOrFace Γ l L (cM Γ L (sP x 0 8 (h, d))) v) s_X3_isClassOrFace ml_X8_139 hw hS rfl hl.1 ⟨Nat.le_of_ble_eq_true rfl, Nat.le_of_ble_eq_true rfl⟩ (Nat.le_of_ble_eq_true rfl) ⟨Nat.le_of_ble_eq_true rfl, Nat.le_of_ble_eq_true rfl⟩ dX8_usesObject_33) hS (fun r_6 L1 M1 H locs hp_6 hw hS => ?_)
      obtain ⟨rfl, e1, e2⟩ := hp_6
      rw [e1, e2] at hw; clear e1 e2
      refine lv_if_eq (tgt := 70) hx hb dX8_usesObject_36 (by decide) (fun c_7 => ?_) (fun c_7 => ?_)
      · skip
        have c_7 := bI_f c_7
        refine lv_iconst (v := 0) hx hb dX8_usesObject_70 (by decide) ?_
        exact m_zret (b := false) X hr hlk hw hS (Nat.le_of_ble_eq_true rfl) (Nat.le_of_ble_eq_true rfl) rfl ⟨⟨_, rfl⟩, (h, d), by show d ≤ 8; omega, rfl, rfl⟩ dX8_usesObject_71
      · skip
        have c_7 := bI_t c_7
        refine lv_aload_n hx hb dX8_usesObject_39 rfl (lv_at hl 0 rfl) ?_
        refine s_get (a := 0) (b := 7) (ci := 6) X hw rfl rfl gX8 0 (by decide) fl_X8_10 rfl rfl dX8_usesObject_40 ?_
        refine lv_bipush (v := 10) hx hb dX8_usesObject_43 (by decide) ?_
        refine m_calli (m_runV (i := nm 0 8) (ci := 4) (As := [.int 10]) (rest := []) X (k_X6_pop Γ l L x 0 8 h d 10 pO8 (by omega) (by first | decide | assumption)) v_X6_pop ml_X8_115 hw hS (p_obj Γ L (c := sP x 0 8 (h, d)) pO8) rfl rfl rfl hl.1 ⟨Nat.le_of_ble_eq_true rfl, Nat.le_of_ble_eq_true rfl⟩ (Nat.le_of_ble_eq_true rfl) ⟨Nat.le_of_ble_eq_true rfl, Nat.le_of_ble_eq_true rfl⟩ dX8_usesObject_45) hS (fun r_8 L1 M1 H locs hp_8 hw hS => ?_)
        obtain ⟨⟨t_8, rfl⟩, ⟨h_8, d_8⟩, hd_8, e1, e2⟩ := hp_8
        have hd_8 : d_8 ≤ 8 := hd_8
        rw [e1, e2] at hw; clear e1 e2
        refine lv_if_eq (tgt := 70) hx hb dX8_usesObject_48 (by decide) (fun c_9 => ?_) (fun c_9 => ?_)
        · skip
          have c_9 := bI_f c_9
          refine lv_iconst (v := 0) hx hb dX8_usesObject_70 (by decide) ?_
          exact m_zret (b := false) X hr hlk hw hS (Nat.le_of_ble_eq_true rfl) (Nat.le_of_ble_eq_true rfl) rfl ⟨⟨_, rfl⟩, (h_8, d_8), by show d_8 ≤ 8; omega, rfl, rfl⟩ dX8_usesObject_71
        · skip
          have c_9 := bI_t c_9
          refine lv_aload_n hx hb dX8_usesObject_51 rfl (lv_at hl 0 rfl) ?_
          refine s_get (a := 0) (b := 7) (ci := 6) X hw rfl rfl gX8 0 (by decide) fl_X8_10 rfl rfl dX8_usesObject_52 ?_
          refine lv_bipush (v := 10) hx hb dX8_usesObject_55 (by decide) ?_
          refine lv_lload_n hx hb dX8_usesObject_57 rfl (lv_at hl 2 rfl) ?_
          refine lv_l2i (v := v.toInt32) hx hb dX8_usesObject_58 rfl ?_
          refine lv_iadd hx hb dX8_usesObject_59 ?_
          refine m_calli (m_runV (i := nm 0 8) (ci := 4) (As := [.int (10 + v.toInt32)]) (rest := []) X (k_X6_push Γ l L x 0 8 h_8 d_8 (10 + v.toInt32) pO8 (by omega)) v_X6_push ml_X8_74 hw hS (p_obj Γ L (c := sP x 0 8 (h_8, d_8)) pO8) rfl rfl rfl hl.1 ⟨Nat.le_of_ble_eq_true rfl, Nat.le_of_ble_eq_true rfl⟩ (Nat.le_of_ble_eq_true rfl) ⟨Nat.le_of_ble_eq_true rfl, Nat.le_of_ble_eq_true rfl⟩ dX8_usesObject_60) hS (fun r_10 L1 M1 H locs hp_10 hw hS => ?_)
          obtain ⟨⟨t_10, rfl⟩, ⟨h_10, d_10⟩, hd_10, e1, e2⟩ := hp_10
          have hd_10 : d_10 ≤ 8 := hd_10
          rw [e1, e2] at hw; clear e1 e2
          refine lv_if_eq (tgt := 70) hx hb dX8_usesObject_63 (by decide) (fun c_11 => ?_) (fun c_11 => ?_)
          · skip
            have c_11 := bI_f c_11
            refine lv_iconst (v := 0) hx hb dX8_usesObject_70 (by decide) ?_
            exact m_zret (b := false) X hr hlk hw hS (Nat.le_of_ble_eq_true rfl) (Nat.le_of_ble_eq_true rfl) rfl ⟨⟨_, rfl⟩, (h_10, d_10), by show d_10 ≤ 8; omega, rfl, rfl⟩ dX8_usesObject_71
          · skip
            have c_11 := bI_t c_11
            refine lv_iconst (v := 1) hx hb dX8_usesObject_66 (by decide) ?_
            refine lv_goto (tgt := 71) hx hb dX8_usesObject_67 (by decide) ?_
            exact m_zret (b := true) X hr hlk hw hS (Nat.le_of_ble_eq_true rfl) (Nat.le_of_ble_eq_true rfl) rfl ⟨⟨_, rfl⟩, (h_10, d_10), by show d_10 ≤ 8; omega, rfl, rfl⟩ dX8_usesObject_71
    · have c_1e : o = 22 := Int32.toInt_inj.mp c_1v
      refine lv_tableIn (off := 71) (tgt := 72) hx hb dX8_usesObject_1 (by omega) (by omega) (by rw [c_1v]; rfl) (by decide) ?_
      refine lv_lload_n hx hb dX8_usesObject_72 rfl (lv_at hl 2 rfl) ?_
      refine m_calli (m_runS (As := [.long v]) (rest := []) X (k_X3_isClassOrFace Γ l L (cM Γ L (sP x 0 8 (h, d))) v) s_X3_isClassOrFace ml_X8_139 hw hS rfl hl.1 ⟨Nat.le_of_ble_eq_true rfl, Nat.le_of_ble_eq_true rfl⟩ (Nat.le_of_ble_eq_true rfl) ⟨Nat.le_of_ble_eq_true rfl, Nat.le_of_ble_eq_true rfl⟩ dX8_usesObject_73) hS (fun r_12 L1 M1 H locs hp_12 hw hS => ?_)
      obtain ⟨rfl, e1, e2⟩ := hp_12
      rw [e1, e2] at hw; clear e1 e2
      refine lv_if_eq (tgt := 106) hx hb dX8_usesObject_76 (by decide) (fun c_13 => ?_) (fun c_13 => ?_)
      · skip
        have c_13 := bI_f c_13
        refine lv_iconst (v := 0) hx hb dX8_usesObject_106 (by decide) ?_
        exact m_zret (b := false) X hr hlk hw hS (Nat.le_of_ble_eq_true rfl) (Nat.le_of_ble_eq_true rfl) rfl ⟨⟨_, rfl⟩, (h, d), by show d ≤ 8; omega, rfl, rfl⟩ dX8_usesObject_107
      · skip
        have c_13 := bI_t c_13
        refine lv_aload_n hx hb dX8_usesObject_79 rfl (lv_at hl 0 rfl) ?_
        refine s_get (a := 0) (b := 7) (ci := 6) X hw rfl rfl gX8 0 (by decide) fl_X8_10 rfl rfl dX8_usesObject_80 ?_
        refine lv_bipush (v := 10) hx hb dX8_usesObject_83 (by decide) ?_
        refine m_calli (m_runV (i := nm 0 8) (ci := 4) (As := [.int 10]) (rest := []) X (k_X6_pop Γ l L x 0 8 h d 10 pO8 (by omega) (by first | decide | assumption)) v_X6_pop ml_X8_115 hw hS (p_obj Γ L (c := sP x 0 8 (h, d)) pO8) rfl rfl rfl hl.1 ⟨Nat.le_of_ble_eq_true rfl, Nat.le_of_ble_eq_true rfl⟩ (Nat.le_of_ble_eq_true rfl) ⟨Nat.le_of_ble_eq_true rfl, Nat.le_of_ble_eq_true rfl⟩ dX8_usesObject_85) hS (fun r_14 L1 M1 H locs hp_14 hw hS => ?_)
        obtain ⟨⟨t_14, rfl⟩, ⟨h_14, d_14⟩, hd_14, e1, e2⟩ := hp_14
        have hd_14 : d_14 ≤ 8 := hd_14
        rw [e1, e2] at hw; clear e1 e2
        refine lv_if_eq (tgt := 106) hx hb dX8_usesObject_88 (by decide) (fun c_15 => ?_) (fun c_15 => ?_)
        · skip
          have c_15 := bI_f c_15
          refine lv_iconst (v := 0) hx hb dX8_usesObject_106 (by decide) ?_
          exact m_zret (b := false) X hr hlk hw hS (Nat.le_of_ble_eq_true rfl) (Nat.le_of_ble_eq_true rfl) rfl ⟨⟨_, rfl⟩, (h_14, d_14), by show d_14 ≤ 8; omega, rfl, rfl⟩ dX8_usesObject_107
        · skip
          have c_15 := bI_t c_15
          refine lv_aload_n hx hb dX8_usesObject_91 rfl (lv_at hl 0 rfl) ?_
          refine s_get (a := 0) (b := 7) (ci := 6) X hw rfl rfl gX8 0 (by decide) fl_X8_10 rfl rfl dX8_usesObject_92 ?_
          refine lv_iconst (v := 1) hx hb dX8_usesObject_95 (by decide) ?_
          refine m_calli (m_runV (i := nm 0 8) (ci := 4) (As := [.int 1]) (rest := []) X (k_X6_push Γ l L x 0 8 h_14 d_14 1 pO8 (by omega)) v_X6_push ml_X8_74 hw hS (p_obj Γ L (c := sP x 0 8 (h_14, d_14)) pO8) rfl rfl rfl hl.1 ⟨Nat.le_of_ble_eq_true rfl, Nat.le_of_ble_eq_true rfl⟩ (Nat.le_of_ble_eq_true rfl) ⟨Nat.le_of_ble_eq_true rfl, Nat.le_of_ble_eq_true rfl⟩ dX8_usesObject_96) hS (fun r_16 L1 M1 H locs hp_16 hw hS => ?_)
          obtain ⟨⟨t_16, rfl⟩, ⟨h_16, d_16⟩, hd_16, e1, e2⟩ := hp_16
          have hd_16 : d_16 ≤ 8 := hd_16
          rw [e1, e2] at hw; clear e1 e2
          refine lv_if_eq (tgt := 106) hx hb dX8_usesObject_99 (by decide) (fun c_17 => ?_) (fun c_17 => ?_)
          · skip
            have c_17 := bI_f c_17
            refine lv_iconst (v := 0) hx hb dX8_usesObject_106 (by decide) ?_
            exact m_zret (b := false) X hr hlk hw hS (Nat.le_of_ble_eq_true rfl) (Nat.le_of_ble_eq_true rfl) rfl ⟨⟨_, rfl⟩, (h_16, d_16), by show d_16 ≤ 8; omega, rfl, rfl⟩ dX8_usesObject_107
          · skip
            have c_17 := bI_t c_17
            refine lv_iconst (v := 1) hx hb dX8_usesObject_102 (by decide) ?_
            refine lv_goto (tgt := 107) hx hb dX8_usesObject_103 (by decide) ?_
            exact m_zret (b := true) X hr hlk hw hS (Nat.le_of_ble_eq_true rfl) (Nat.le_of_ble_eq_true rfl) rfl ⟨⟨_, rfl⟩, (h_16, d_16), by show d_16 ≤ 8; omega, rfl, rfl⟩ dX8_usesObject_107
    · have c_1e : o = 23 := Int32.toInt_inj.mp c_1v
      refine lv_tableIn (off := 136) (tgt := 137) hx hb dX8_usesObject_1 (by omega) (by omega) (by rw [c_1v]; rfl) (by decide) ?_
      refine lv_aload_n hx hb dX8_usesObject_137 rfl (lv_at hl 0 rfl) ?_
      refine s_get (a := 0) (b := 7) (ci := 6) X hw rfl rfl gX8 0 (by decide) fl_X8_10 rfl rfl dX8_usesObject_138 ?_
      refine lv_bipush (v := 11) hx hb dX8_usesObject_141 (by decide) ?_
      refine m_calli (m_runV (i := nm 0 8) (ci := 4) (As := [.int 11]) (rest := []) X (k_X6_pop Γ l L x 0 8 h d 11 pO8 (by omega) (by first | decide | assumption)) v_X6_pop ml_X8_115 hw hS (p_obj Γ L (c := sP x 0 8 (h, d)) pO8) rfl rfl rfl hl.1 ⟨Nat.le_of_ble_eq_true rfl, Nat.le_of_ble_eq_true rfl⟩ (Nat.le_of_ble_eq_true rfl) ⟨Nat.le_of_ble_eq_true rfl, Nat.le_of_ble_eq_true rfl⟩ dX8_usesObject_143) hS (fun r_18 L1 M1 H locs hp_18 hw hS => ?_)
      obtain ⟨⟨t_18, rfl⟩, ⟨h_18, d_18⟩, hd_18, e1, e2⟩ := hp_18
      have hd_18 : d_18 ≤ 8 := hd_18
      rw [e1, e2] at hw; clear e1 e2
      refine lv_if_eq (tgt := 164) hx hb dX8_usesObject_146 (by decide) (fun c_19 => ?_) (fun c_19 => ?_)
      · skip
        have c_19 := bI_f c_19
        refine lv_iconst (v := 0) hx hb dX8_usesObject_164 (by decide) ?_
        exact m_zret (b := false) X hr hlk hw hS (Nat.le_of_ble_eq_true rfl) (Nat.le_of_ble_eq_true rfl) rfl ⟨⟨_, rfl⟩, (h_18, d_18), by show d_18 ≤ 8; omega, rfl, rfl⟩ dX8_usesObject_165
      · skip
        have c_19 := bI_t c_19
        refine lv_aload_n hx hb dX8_usesObject_149 rfl (lv_at hl 0 rfl) ?_
        refine s_get (a := 0) (b := 7) (ci := 6) X hw rfl rfl gX8 0 (by decide) fl_X8_10 rfl rfl dX8_usesObject_150 ?_
        refine lv_iconst (v := 1) hx hb dX8_usesObject_153 (by decide) ?_
        refine m_calli (m_runV (i := nm 0 8) (ci := 4) (As := [.int 1]) (rest := []) X (k_X6_push Γ l L x 0 8 h_18 d_18 1 pO8 (by omega)) v_X6_push ml_X8_74 hw hS (p_obj Γ L (c := sP x 0 8 (h_18, d_18)) pO8) rfl rfl rfl hl.1 ⟨Nat.le_of_ble_eq_true rfl, Nat.le_of_ble_eq_true rfl⟩ (Nat.le_of_ble_eq_true rfl) ⟨Nat.le_of_ble_eq_true rfl, Nat.le_of_ble_eq_true rfl⟩ dX8_usesObject_154) hS (fun r_20 L1 M1 H locs hp_20 hw hS => ?_)
        obtain ⟨⟨t_20, rfl⟩, ⟨h_20, d_20⟩, hd_20, e1, e2⟩ := hp_20
        have hd_20 : d_20 ≤ 8 := hd_20
        rw [e1, e2] at hw; clear e1 e2
        refine lv_if_eq (tgt := 164) hx hb dX8_usesObject_157 (by decide) (fun c_21 => ?_) (fun c_21 => ?_)
        · skip
          have c_21 := bI_f c_21
          refine lv_iconst (v := 0) hx hb dX8_usesObject_164 (by decide) ?_
          exact m_zret (b := false) X hr hlk hw hS (Nat.le_of_ble_eq_true rfl) (Nat.le_of_ble_eq_true rfl) rfl ⟨⟨_, rfl⟩, (h_20, d_20), by show d_20 ≤ 8; omega, rfl, rfl⟩ dX8_usesObject_165
        · skip
          have c_21 := bI_t c_21
          refine lv_iconst (v := 1) hx hb dX8_usesObject_160 (by decide) ?_
          refine lv_goto (tgt := 165) hx hb dX8_usesObject_161 (by decide) ?_
          exact m_zret (b := true) X hr hlk hw hS (Nat.le_of_ble_eq_true rfl) (Nat.le_of_ble_eq_true rfl) rfl ⟨⟨_, rfl⟩, (h_20, d_20), by show d_20 ≤ 8; omega, rfl, rfl⟩ dX8_usesObject_165
    · have c_1e : o = 24 := Int32.toInt_inj.mp c_1v
      refine lv_tableIn (off := 107) (tgt := 108) hx hb dX8_usesObject_1 (by omega) (by omega) (by rw [c_1v]; rfl) (by decide) ?_
      refine lv_aload_n hx hb dX8_usesObject_108 rfl (lv_at hl 0 rfl) ?_
      refine s_get (a := 0) (b := 7) (ci := 6) X hw rfl rfl gX8 0 (by decide) fl_X8_10 rfl rfl dX8_usesObject_109 ?_
      refine lv_iconst (v := 1) hx hb dX8_usesObject_112 (by decide) ?_
      refine m_calli (m_runV (i := nm 0 8) (ci := 4) (As := [.int 1]) (rest := []) X (k_X6_pop Γ l L x 0 8 h d 1 pO8 (by omega) (by first | decide | assumption)) v_X6_pop ml_X8_115 hw hS (p_obj Γ L (c := sP x 0 8 (h, d)) pO8) rfl rfl rfl hl.1 ⟨Nat.le_of_ble_eq_true rfl, Nat.le_of_ble_eq_true rfl⟩ (Nat.le_of_ble_eq_true rfl) ⟨Nat.le_of_ble_eq_true rfl, Nat.le_of_ble_eq_true rfl⟩ dX8_usesObject_113) hS (fun r_22 L1 M1 H locs hp_22 hw hS => ?_)
      obtain ⟨⟨t_22, rfl⟩, ⟨h_22, d_22⟩, hd_22, e1, e2⟩ := hp_22
      have hd_22 : d_22 ≤ 8 := hd_22
      rw [e1, e2] at hw; clear e1 e2
      refine lv_if_eq (tgt := 135) hx hb dX8_usesObject_116 (by decide) (fun c_23 => ?_) (fun c_23 => ?_)
      · skip
        have c_23 := bI_f c_23
        refine lv_iconst (v := 0) hx hb dX8_usesObject_135 (by decide) ?_
        exact m_zret (b := false) X hr hlk hw hS (Nat.le_of_ble_eq_true rfl) (Nat.le_of_ble_eq_true rfl) rfl ⟨⟨_, rfl⟩, (h_22, d_22), by show d_22 ≤ 8; omega, rfl, rfl⟩ dX8_usesObject_136
      · skip
        have c_23 := bI_t c_23
        refine lv_aload_n hx hb dX8_usesObject_119 rfl (lv_at hl 0 rfl) ?_
        refine s_get (a := 0) (b := 7) (ci := 6) X hw rfl rfl gX8 0 (by decide) fl_X8_10 rfl rfl dX8_usesObject_120 ?_
        refine lv_bipush (v := 11) hx hb dX8_usesObject_123 (by decide) ?_
        refine m_calli (m_runV (i := nm 0 8) (ci := 4) (As := [.int 11]) (rest := []) X (k_X6_pop Γ l L x 0 8 h_22 d_22 11 pO8 (by omega) (by first | decide | assumption)) v_X6_pop ml_X8_115 hw hS (p_obj Γ L (c := sP x 0 8 (h_22, d_22)) pO8) rfl rfl rfl hl.1 ⟨Nat.le_of_ble_eq_true rfl, Nat.le_of_ble_eq_true rfl⟩ (Nat.le_of_ble_eq_true rfl) ⟨Nat.le_of_ble_eq_true rfl, Nat.le_of_ble_eq_true rfl⟩ dX8_usesObject_125) hS (fun r_24 L1 M1 H locs hp_24 hw hS => ?_)
        obtain ⟨⟨t_24, rfl⟩, ⟨h_24, d_24⟩, hd_24, e1, e2⟩ := hp_24
        have hd_24 : d_24 ≤ 8 := hd_24
        rw [e1, e2] at hw; clear e1 e2
        refine lv_if_eq (tgt := 135) hx hb dX8_usesObject_128 (by decide) (fun c_25 => ?_) (fun c_25 => ?_)
        · skip
          have c_25 := bI_f c_25
          refine lv_iconst (v := 0) hx hb dX8_usesObject_135 (by decide) ?_
          exact m_zret (b := false) X hr hlk hw hS (Nat.le_of_ble_eq_true rfl) (Nat.le_of_ble_eq_true rfl) rfl ⟨⟨_, rfl⟩, (h_24, d_24), by show d_24 ≤ 8; omega, rfl, rfl⟩ dX8_usesObject_136
        · skip
          have c_25 := bI_t c_25
          refine lv_iconst (v := 1) hx hb dX8_usesObject_131 (by decide) ?_
          refine lv_goto (tgt := 136) hx hb dX8_usesObject_132 (by decide) ?_
          exact m_zret (b := true) X hr hlk hw hS (Nat.le_of_ble_eq_true rfl) (Nat.le_of_ble_eq_true rfl) rfl ⟨⟨_, rfl⟩, (h_24, d_24), by show d_24 ≤ 8; omega, rfl, rfl⟩ dX8_usesObject_136
theorem v_X8_turns : mVm yX8_turns cX8_turns 4 (some .boolean) 1 := ⟨cd_X8_turns, im_X8_turns, se_X8_turns, ini_X8, by decide, by decide, by decide +kernel⟩
set_option maxHeartbeats 4000000 in
set_option maxRecDepth 100000 in
theorem k_X8_turns (Γ : mG) (l : Launch) (L : mI → Nat) (x : CS) (h : Nat → Int32) (d : Nat) (o : Int32) (hd : d ≤ 8) : mMet Γ l yX8_turns cX8_turns 4 (some .boolean) { frames := 2, cells := 0, slots := 0, locals := 41 } [.ref (L (nm 0 7)), .int o] L (cM Γ L (sP x 0 8 (h, d))) (mQi Γ (mPz Γ L x 0 8)) := by
  refine m_start (by decide) (Nat.le_of_ble_eq_true rfl) ?_
  intro p e s m args below meth c A ls X hr hlk hnm hw hS hl
  have hx := X.1.1
  have hb := X.1.2.1
  have hl : lv_has ls 4 [(0, .ref (L (nm 0 7))), (1, .int o)] := hl
  refine lv_aload_n hx hb dX8_turns_0 rfl (lv_at hl 0 rfl) ?_
  refine s_get (a := 0) (b := 7) (ci := 6) X hw rfl rfl gX8 0 (by decide) fl_X8_10 rfl rfl dX8_turns_1 ?_
  refine m_calli (m_runV (i := nm 0 8) (ci := 4) (As := []) (rest := []) X (k_X6_popOne Γ l L x 0 8 h d  pO8 (by omega)) v_X6_popOne ml_X8_98 hw hS (p_obj Γ L (c := sP x 0 8 (h, d)) pO8) rfl rfl rfl hl.1 ⟨Nat.le_of_ble_eq_true rfl, Nat.le_of_ble_eq_true rfl⟩ (Nat.le_of_ble_eq_true rfl) ⟨Nat.le_of_ble_eq_true rfl, Nat.le_of_ble_eq_true rfl⟩ dX8_turns_4) hS (fun r_1 L1 M1 H locs hp_1 hw hS => ?_)
  obtain ⟨⟨h_1, d_1⟩, hd_1, e1, e2⟩ := hp_1
  have hd_1 : d_1 ≤ 8 := hd_1
  rw [e1, e2] at hw; clear e1 e2
  refine lv_istore_n (lv' := [(2, .int r_1), (0, .ref (L (nm 0 7))), (1, .int o)]) hx hb dX8_turns_7 rfl hl (by decide) rfl (fun ls hl => ?_)
  refine lv_iload_n hx hb dX8_turns_8 rfl (lv_at hl 0 rfl) ?_
  refine lv_if_eq (tgt := 18) hx hb dX8_turns_9 (by decide) (fun c_2 => ?_) (fun c_2 => ?_)
  · skip
    refine lv_iload_n hx hb dX8_turns_18 rfl (lv_at hl 0 rfl) ?_
    refine lv_if_eq (tgt := 26) hx hb dX8_turns_19 (by decide) (fun c_3 => ?_) (fun c_3 => ?_)
    · skip
      refine lv_iconst (v := 0) hx hb dX8_turns_26 (by decide) ?_
      exact m_zret (b := false) X hr hlk hw hS (Nat.le_of_ble_eq_true rfl) (Nat.le_of_ble_eq_true rfl) rfl ⟨⟨_, rfl⟩, (h_1, d_1), by show d_1 ≤ 8; omega, rfl, rfl⟩ dX8_turns_27
    · skip
      refine lv_iconst (v := 1) hx hb dX8_turns_22 (by decide) ?_
      refine lv_goto (tgt := 27) hx hb dX8_turns_23 (by decide) ?_
      exact m_zret (b := true) X hr hlk hw hS (Nat.le_of_ble_eq_true rfl) (Nat.le_of_ble_eq_true rfl) rfl ⟨⟨_, rfl⟩, (h_1, d_1), by show d_1 ≤ 8; omega, rfl, rfl⟩ dX8_turns_27
  · skip
    refine lv_iload_n hx hb dX8_turns_12 rfl (lv_at hl 2 rfl) ?_
    refine lv_bipush (v := 27) hx hb dX8_turns_13 (by decide) ?_
    refine lv_icmp_ne (tgt := 28) hx hb dX8_turns_15 (by decide) (fun c_4 => ?_) (fun c_4 => ?_)
    · skip
      refine lv_iload_n hx hb dX8_turns_28 rfl (lv_at hl 2 rfl) ?_
      refine lv_bipush (v := 26) hx hb dX8_turns_29 (by decide) ?_
      refine lv_icmp_ne (tgt := 62) hx hb dX8_turns_31 (by decide) (fun c_5 => ?_) (fun c_5 => ?_)
      · skip
        refine lv_aload_n hx hb dX8_turns_62 rfl (lv_at hl 1 rfl) ?_
        refine s_get (a := 0) (b := 7) (ci := 6) X hw rfl rfl gX8 0 (by decide) fl_X8_10 rfl rfl dX8_turns_63 ?_
        refine m_calli (m_runV (i := nm 0 8) (ci := 4) (As := []) (rest := []) X (k_X6_popOne Γ l L x 0 8 h_1 d_1  pO8 (by omega)) v_X6_popOne ml_X8_98 hw hS (p_obj Γ L (c := sP x 0 8 (h_1, d_1)) pO8) rfl rfl rfl hl.1 ⟨Nat.le_of_ble_eq_true rfl, Nat.le_of_ble_eq_true rfl⟩ (Nat.le_of_ble_eq_true rfl) ⟨Nat.le_of_ble_eq_true rfl, Nat.le_of_ble_eq_true rfl⟩ dX8_turns_66) hS (fun r_6 L1 M1 H locs hp_6 hw hS => ?_)
        obtain ⟨⟨h_6, d_6⟩, hd_6, e1, e2⟩ := hp_6
        have hd_6 : d_6 ≤ 8 := hd_6
        rw [e1, e2] at hw; clear e1 e2
        refine lv_istore_n (lv' := [(3, .int r_6), (2, .int r_1), (0, .ref (L (nm 0 7))), (1, .int o)]) hx hb dX8_turns_69 rfl hl (by decide) rfl (fun ls hl => ?_)
        refine lv_iload_n hx hb dX8_turns_70 rfl (lv_at hl 0 rfl) ?_
        refine lv_if_eq (tgt := 100) hx hb dX8_turns_71 (by decide) (fun c_7 => ?_) (fun c_7 => ?_)
        · skip
          refine lv_iconst (v := 0) hx hb dX8_turns_100 (by decide) ?_
          exact m_zret (b := false) X hr hlk hw hS (Nat.le_of_ble_eq_true rfl) (Nat.le_of_ble_eq_true rfl) rfl ⟨⟨_, rfl⟩, (h_6, d_6), by show d_6 ≤ 8; omega, rfl, rfl⟩ dX8_turns_101
        · skip
          refine lv_aload_n hx hb dX8_turns_74 rfl (lv_at hl 2 rfl) ?_
          refine s_get (a := 0) (b := 7) (ci := 6) X hw rfl rfl gX8 0 (by decide) fl_X8_10 rfl rfl dX8_turns_75 ?_
          refine lv_iload_n hx hb dX8_turns_78 rfl (lv_at hl 1 rfl) ?_
          refine m_calli (m_runV (i := nm 0 8) (ci := 4) (As := [.int r_1]) (rest := []) X (k_X6_push Γ l L x 0 8 h_6 d_6 r_1 pO8 (by omega)) v_X6_push ml_X8_74 hw hS (p_obj Γ L (c := sP x 0 8 (h_6, d_6)) pO8) rfl rfl rfl hl.1 ⟨Nat.le_of_ble_eq_true rfl, Nat.le_of_ble_eq_true rfl⟩ (Nat.le_of_ble_eq_true rfl) ⟨Nat.le_of_ble_eq_true rfl, Nat.le_of_ble_eq_true rfl⟩ dX8_turns_79) hS (fun r_8 L1 M1 H locs hp_8 hw hS => ?_)
          obtain ⟨⟨t_8, rfl⟩, ⟨h_8, d_8⟩, hd_8, e1, e2⟩ := hp_8
          have hd_8 : d_8 ≤ 8 := hd_8
          rw [e1, e2] at hw; clear e1 e2
          refine lv_if_eq (tgt := 100) hx hb dX8_turns_82 (by decide) (fun c_9 => ?_) (fun c_9 => ?_)
          · skip
            have c_9 := bI_f c_9
            refine lv_iconst (v := 0) hx hb dX8_turns_100 (by decide) ?_
            exact m_zret (b := false) X hr hlk hw hS (Nat.le_of_ble_eq_true rfl) (Nat.le_of_ble_eq_true rfl) rfl ⟨⟨_, rfl⟩, (h_8, d_8), by show d_8 ≤ 8; omega, rfl, rfl⟩ dX8_turns_101
          · skip
            have c_9 := bI_t c_9
            refine lv_aload_n hx hb dX8_turns_85 rfl (lv_at hl 2 rfl) ?_
            refine s_get (a := 0) (b := 7) (ci := 6) X hw rfl rfl gX8 0 (by decide) fl_X8_10 rfl rfl dX8_turns_86 ?_
            refine lv_iload_n hx hb dX8_turns_89 rfl (lv_at hl 0 rfl) ?_
            refine m_calli (m_runV (i := nm 0 8) (ci := 4) (As := [.int r_6]) (rest := []) X (k_X6_push Γ l L x 0 8 h_8 d_8 r_6 pO8 (by omega)) v_X6_push ml_X8_74 hw hS (p_obj Γ L (c := sP x 0 8 (h_8, d_8)) pO8) rfl rfl rfl hl.1 ⟨Nat.le_of_ble_eq_true rfl, Nat.le_of_ble_eq_true rfl⟩ (Nat.le_of_ble_eq_true rfl) ⟨Nat.le_of_ble_eq_true rfl, Nat.le_of_ble_eq_true rfl⟩ dX8_turns_90) hS (fun r_10 L1 M1 H locs hp_10 hw hS => ?_)
            obtain ⟨⟨t_10, rfl⟩, ⟨h_10, d_10⟩, hd_10, e1, e2⟩ := hp_10
            have hd_10 : d_10 ≤ 8 := hd_10
            rw [e1, e2] at hw; clear e1 e2
            refine lv_if_eq (tgt := 100) hx hb dX8_turns_93 (by decide) (fun c_11 => ?_) (fun c_11 => ?_)
            · skip
              have c_11 := bI_f c_11
              refine lv_iconst (v := 0) hx hb dX8_turns_100 (by decide) ?_
              exact m_zret (b := false) X hr hlk hw hS (Nat.le_of_ble_eq_true rfl) (Nat.le_of_ble_eq_true rfl) rfl ⟨⟨_, rfl⟩, (h_10, d_10), by show d_10 ≤ 8; omega, rfl, rfl⟩ dX8_turns_101
            · skip
              have c_11 := bI_t c_11
              refine lv_iconst (v := 1) hx hb dX8_turns_96 (by decide) ?_
              refine lv_goto (tgt := 101) hx hb dX8_turns_97 (by decide) ?_
              exact m_zret (b := true) X hr hlk hw hS (Nat.le_of_ble_eq_true rfl) (Nat.le_of_ble_eq_true rfl) rfl ⟨⟨_, rfl⟩, (h_10, d_10), by show d_10 ≤ 8; omega, rfl, rfl⟩ dX8_turns_101
      · skip
        refine lv_aload_n hx hb dX8_turns_34 rfl (lv_at hl 1 rfl) ?_
        refine s_get (a := 0) (b := 7) (ci := 6) X hw rfl rfl gX8 0 (by decide) fl_X8_10 rfl rfl dX8_turns_35 ?_
        refine lv_iload_n hx hb dX8_turns_38 rfl (lv_at hl 0 rfl) ?_
        refine m_calli (m_runV (i := nm 0 8) (ci := 4) (As := [.int r_1]) (rest := []) X (k_X6_push Γ l L x 0 8 h_1 d_1 r_1 pO8 (by omega)) v_X6_push ml_X8_74 hw hS (p_obj Γ L (c := sP x 0 8 (h_1, d_1)) pO8) rfl rfl rfl hl.1 ⟨Nat.le_of_ble_eq_true rfl, Nat.le_of_ble_eq_true rfl⟩ (Nat.le_of_ble_eq_true rfl) ⟨Nat.le_of_ble_eq_true rfl, Nat.le_of_ble_eq_true rfl⟩ dX8_turns_39) hS (fun r_12 L1 M1 H locs hp_12 hw hS => ?_)
        obtain ⟨⟨t_12, rfl⟩, ⟨h_12, d_12⟩, hd_12, e1, e2⟩ := hp_12
        have hd_12 : d_12 ≤ 8 := hd_12
        rw [e1, e2] at hw; clear e1 e2
        refine lv_if_eq (tgt := 60) hx hb dX8_turns_42 (by decide) (fun c_13 => ?_) (fun c_13 => ?_)
        · skip
          have c_13 := bI_f c_13
          refine lv_iconst (v := 0) hx hb dX8_turns_60 (by decide) ?_
          exact m_zret (b := false) X hr hlk hw hS (Nat.le_of_ble_eq_true rfl) (Nat.le_of_ble_eq_true rfl) rfl ⟨⟨_, rfl⟩, (h_12, d_12), by show d_12 ≤ 8; omega, rfl, rfl⟩ dX8_turns_61
        · skip
          have c_13 := bI_t c_13
          refine lv_aload_n hx hb dX8_turns_45 rfl (lv_at hl 1 rfl) ?_
          refine s_get (a := 0) (b := 7) (ci := 6) X hw rfl rfl gX8 0 (by decide) fl_X8_10 rfl rfl dX8_turns_46 ?_
          refine lv_iload_n hx hb dX8_turns_49 rfl (lv_at hl 0 rfl) ?_
          refine m_calli (m_runV (i := nm 0 8) (ci := 4) (As := [.int r_1]) (rest := []) X (k_X6_push Γ l L x 0 8 h_12 d_12 r_1 pO8 (by omega)) v_X6_push ml_X8_74 hw hS (p_obj Γ L (c := sP x 0 8 (h_12, d_12)) pO8) rfl rfl rfl hl.1 ⟨Nat.le_of_ble_eq_true rfl, Nat.le_of_ble_eq_true rfl⟩ (Nat.le_of_ble_eq_true rfl) ⟨Nat.le_of_ble_eq_true rfl, Nat.le_of_ble_eq_true rfl⟩ dX8_turns_50) hS (fun r_14 L1 M1 H locs hp_14 hw hS => ?_)
          obtain ⟨⟨t_14, rfl⟩, ⟨h_14, d_14⟩, hd_14, e1, e2⟩ := hp_14
          have hd_14 : d_14 ≤ 8 := hd_14
          rw [e1, e2] at hw; clear e1 e2
          refine lv_if_eq (tgt := 60) hx hb dX8_turns_53 (by decide) (fun c_15 => ?_) (fun c_15 => ?_)
          · skip
            have c_15 := bI_f c_15
            refine lv_iconst (v := 0) hx hb dX8_turns_60 (by decide) ?_
            exact m_zret (b := false) X hr hlk hw hS (Nat.le_of_ble_eq_true rfl) (Nat.le_of_ble_eq_true rfl) rfl ⟨⟨_, rfl⟩, (h_14, d_14), by show d_14 ≤ 8; omega, rfl, rfl⟩ dX8_turns_61
          · skip
            have c_15 := bI_t c_15
            refine lv_iconst (v := 1) hx hb dX8_turns_56 (by decide) ?_
            refine lv_goto (tgt := 61) hx hb dX8_turns_57 (by decide) ?_
            exact m_zret (b := true) X hr hlk hw hS (Nat.le_of_ble_eq_true rfl) (Nat.le_of_ble_eq_true rfl) rfl ⟨⟨_, rfl⟩, (h_14, d_14), by show d_14 ≤ 8; omega, rfl, rfl⟩ dX8_turns_61
    · skip
      refine lv_iload_n hx hb dX8_turns_18 rfl (lv_at hl 0 rfl) ?_
      refine lv_if_eq (tgt := 26) hx hb dX8_turns_19 (by decide) (fun c_16 => ?_) (fun c_16 => ?_)
      · skip
        refine lv_iconst (v := 0) hx hb dX8_turns_26 (by decide) ?_
        exact m_zret (b := false) X hr hlk hw hS (Nat.le_of_ble_eq_true rfl) (Nat.le_of_ble_eq_true rfl) rfl ⟨⟨_, rfl⟩, (h_1, d_1), by show d_1 ≤ 8; omega, rfl, rfl⟩ dX8_turns_27
      · skip
        refine lv_iconst (v := 1) hx hb dX8_turns_22 (by decide) ?_
        refine lv_goto (tgt := 27) hx hb dX8_turns_23 (by decide) ?_
        exact m_zret (b := true) X hr hlk hw hS (Nat.le_of_ble_eq_true rfl) (Nat.le_of_ble_eq_true rfl) rfl ⟨⟨_, rfl⟩, (h_1, d_1), by show d_1 ≤ 8; omega, rfl, rfl⟩ dX8_turns_27
theorem v_X8_finishes : mVm yX8_finishes cX8_finishes 6 (some .boolean) 2 := ⟨cd_X8_finishes, im_X8_finishes, se_X8_finishes, ini_X8, by decide, by decide, by decide +kernel⟩
set_option maxHeartbeats 4000000 in
set_option maxRecDepth 100000 in
theorem k_X8_finishes (Γ : mG) (l : Launch) (L : mI → Nat) (x : CS) (h : Nat → Int32) (d : Nat) (cm : Nat) (v : Int64) (hd : d ≤ 8) (hI : CInv x) (hm : cm < cN x) : mMet Γ l yX8_finishes cX8_finishes 6 (some .boolean) { frames := 2, cells := 0, slots := 0, locals := 44 } [.ref (L (nm 0 7)), .ref (L (nm (cm + 2) 0)), .long v] L (cM Γ L (sP x 0 8 (h, d))) (mQi Γ (mPz Γ L x 0 8)) := by
  refine m_start (by decide) (Nat.le_of_ble_eq_true rfl) ?_
  intro p e s m args below meth c A ls X hr hlk hnm hw hS hl
  have hx := X.1.1
  have hb := X.1.2.1
  have hl : lv_has ls 6 [(0, .ref (L (nm 0 7))), (1, .ref (L (nm (cm + 2) 0))), (2, .long v)] := hl
  refine lv_aload_n hx hb dX8_finishes_0 rfl (lv_at hl 0 rfl) ?_
  refine s_get (a := 0) (b := 7) (ci := 6) X hw rfl rfl gX8 0 (by decide) fl_X8_10 rfl rfl dX8_finishes_1 ?_
  refine m_calli (m_runV (i := nm 0 8) (ci := 4) (As := []) (rest := []) X (k_X6_popOne Γ l L x 0 8 h d  pO8 (by omega)) v_X6_popOne ml_X8_98 hw hS (p_obj Γ L (c := sP x 0 8 (h, d)) pO8) rfl rfl rfl hl.1 ⟨Nat.le_of_ble_eq_true rfl, Nat.le_of_ble_eq_true rfl⟩ (Nat.le_of_ble_eq_true rfl) ⟨Nat.le_of_ble_eq_true rfl, Nat.le_of_ble_eq_true rfl⟩ dX8_finishes_4) hS (fun r_1 L1 M1 H locs hp_1 hw hS => ?_)
  obtain ⟨⟨h_1, d_1⟩, hd_1, e1, e2⟩ := hp_1
  have hd_1 : d_1 ≤ 8 := hd_1
  rw [e1, e2] at hw; clear e1 e2
  refine lv_istore (lv' := [(4, .int r_1), (0, .ref (L (nm 0 7))), (1, .ref (L (nm (cm + 2) 0))), (2, .long v)]) hx hb dX8_finishes_7 hl (by decide) rfl (fun ls hl => ?_)
  refine lv_lload_n hx hb dX8_finishes_9 rfl (lv_at hl 3 rfl) ?_
  refine m_calli (m_runS (As := [.long v]) (rest := []) X (k_X3_isClass Γ l L (cM Γ L (sP x 0 8 (h_1, d_1))) v) s_X3_isClass ml_X8_118 hw hS rfl hl.1 ⟨Nat.le_of_ble_eq_true rfl, Nat.le_of_ble_eq_true rfl⟩ (Nat.le_of_ble_eq_true rfl) ⟨Nat.le_of_ble_eq_true rfl, Nat.le_of_ble_eq_true rfl⟩ dX8_finishes_10) hS (fun r_2 L1 M1 H locs hp_2 hw hS => ?_)
  obtain ⟨rfl, e1, e2⟩ := hp_2
  rw [e1, e2] at hw; clear e1 e2
  refine lv_if_eq (tgt := 24) hx hb dX8_finishes_13 (by decide) (fun c_3 => ?_) (fun c_3 => ?_)
  · skip
    have c_3 := bI_f c_3
    refine lv_iconst (v := 0) hx hb dX8_finishes_24 (by decide) ?_
    exact m_zret (b := false) X hr hlk hw hS (Nat.le_of_ble_eq_true rfl) (Nat.le_of_ble_eq_true rfl) rfl ⟨⟨_, rfl⟩, (h_1, d_1), by show d_1 ≤ 8; omega, rfl, rfl⟩ dX8_finishes_25
  · skip
    have c_3 := bI_t c_3
    refine lv_iload hx hb dX8_finishes_16 (lv_at hl 0 rfl) ?_
    refine m_calli (m_runS (As := [.int r_1]) (rest := []) X (k_X3_isUnmade Γ l L (cM Γ L (sP x 0 8 (h_1, d_1))) r_1) s_X3_isUnmade ml_X8_127 hw hS rfl hl.1 ⟨Nat.le_of_ble_eq_true rfl, Nat.le_of_ble_eq_true rfl⟩ (Nat.le_of_ble_eq_true rfl) ⟨Nat.le_of_ble_eq_true rfl, Nat.le_of_ble_eq_true rfl⟩ dX8_finishes_18) hS (fun r_4 L1 M1 H locs hp_4 hw hS => ?_)
    obtain ⟨rfl, e1, e2⟩ := hp_4
    rw [e1, e2] at hw; clear e1 e2
    refine lv_if_ne (tgt := 26) hx hb dX8_finishes_21 (by decide) (fun c_5 => ?_) (fun c_5 => ?_)
    · skip
      have c_5 := bI_t c_5
      refine lv_iload hx hb dX8_finishes_26 (lv_at hl 0 rfl) ?_
      refine lv_bipush (v := 100) hx hb dX8_finishes_28 (by decide) ?_
      refine lv_isub hx hb dX8_finishes_30 ?_
      refine lv_istore (lv' := [(5, .int (r_1 - 100)), (4, .int r_1), (0, .ref (L (nm 0 7))), (1, .ref (L (nm (cm + 2) 0))), (2, .long v)]) hx hb dX8_finishes_31 hl (by decide) rfl (fun ls hl => ?_)
      refine lv_aload_n hx hb dX8_finishes_33 rfl (lv_at hl 3 rfl) ?_
      refine lv_iload hx hb dX8_finishes_34 (lv_at hl 0 rfl) ?_
      refine lv_i2l (v := (r_1 - 100).toInt64) hx hb dX8_finishes_36 rfl ?_
      refine m_calli (m_runV (i := nm (cm + 2) 0) (ci := 0) (As := [.long ((r_1 - 100).toInt64)]) (rest := []) X (k_X0_hasInstruction Γ l L (sP x 0 8 (h_1, d_1)) cm ((r_1 - 100).toInt64) hm) v_X0_hasInstruction ml_X8_16 hw hS (c_cell hm 0 _ _ _) rfl rfl rfl hl.1 ⟨Nat.le_of_ble_eq_true rfl, Nat.le_of_ble_eq_true rfl⟩ (Nat.le_of_ble_eq_true rfl) ⟨Nat.le_of_ble_eq_true rfl, Nat.le_of_ble_eq_true rfl⟩ dX8_finishes_37) hS (fun r_6 L1 M1 H locs hp_6 hw hS => ?_)
      obtain ⟨rfl, e1, e2⟩ := hp_6
      rw [e1, e2] at hw; clear e1 e2
      refine lv_if_eq (tgt := 67) hx hb dX8_finishes_40 (by decide) (fun c_7 => ?_) (fun c_7 => ?_)
      · skip
        have c_7 := bI_f c_7
        refine lv_iconst (v := 0) hx hb dX8_finishes_67 (by decide) ?_
        exact m_zret (b := false) X hr hlk hw hS (Nat.le_of_ble_eq_true rfl) (Nat.le_of_ble_eq_true rfl) rfl ⟨⟨_, rfl⟩, (h_1, d_1), by show d_1 ≤ 8; omega, rfl, rfl⟩ dX8_finishes_68
      · skip
        have c_7 := bI_t c_7
        obtain ⟨kn, hkn, ek⟩ := hasI_nat (CInv.putP (a := 0) (b := 8) (q := (h_1, d_1)) hI pO8 (by show d_1 ≤ 8; omega)) hm c_7
        refine lv_aload_n hx hb dX8_finishes_43 rfl (lv_at hl 3 rfl) ?_
        refine s_get (a := cm + 2) (b := 0) (ci := 0) X hw (c_cell hm 0 _ _ _) rfl gX0 2 (by decide) fl_X8_22 rfl rfl dX8_finishes_44 ?_
        refine lv_iload hx hb dX8_finishes_47 (lv_at hl 0 rfl) ?_
        refine s_iald (n := 40) (k := kn) X hw (c_cell hm 1 _ _ _) ek (by omega) (by decide) dX8_finishes_49 ?_
        refine lv_bipush (v := 12) hx hb dX8_finishes_50 (by decide) ?_
        refine lv_icmp_ne (tgt := 67) hx hb dX8_finishes_52 (by decide) (fun c_8 => ?_) (fun c_8 => ?_)
        · skip
          refine lv_iconst (v := 0) hx hb dX8_finishes_67 (by decide) ?_
          exact m_zret (b := false) X hr hlk hw hS (Nat.le_of_ble_eq_true rfl) (Nat.le_of_ble_eq_true rfl) rfl ⟨⟨_, rfl⟩, (h_1, d_1), by show d_1 ≤ 8; omega, rfl, rfl⟩ dX8_finishes_68
        · skip
          refine lv_aload_n hx hb dX8_finishes_55 rfl (lv_at hl 3 rfl) ?_
          refine s_get (a := cm + 2) (b := 0) (ci := 0) X hw (c_cell hm 0 _ _ _) rfl gX0 3 (by decide) fl_X8_26 rfl rfl dX8_finishes_56 ?_
          refine lv_iload hx hb dX8_finishes_59 (lv_at hl 0 rfl) ?_
          refine s_lald (n := 40) (k := kn) X hw (c_cell hm 2 _ _ _) ek (by omega) (by decide) dX8_finishes_61 ?_
          refine lv_lload_n hx hb dX8_finishes_62 rfl (lv_at hl 4 rfl) ?_
          refine m_lcmp_eq (tgt := 69) hx hb dX8_finishes_63 dX8_finishes_64 (by decide) (fun c_9 => ?_) (fun c_9 => ?_)
          · skip
            refine lv_aload_n hx hb dX8_finishes_69 rfl (lv_at hl 2 rfl) ?_
            refine s_get (a := 0) (b := 7) (ci := 6) X hw rfl rfl gX8 0 (by decide) fl_X8_10 rfl rfl dX8_finishes_70 ?_
            refine lv_iload hx hb dX8_finishes_73 (lv_at hl 1 rfl) ?_
            refine lv_bipush (v := 10) hx hb dX8_finishes_75 (by decide) ?_
            refine lv_lload_n hx hb dX8_finishes_77 rfl (lv_at hl 4 rfl) ?_
            refine lv_l2i (v := v.toInt32) hx hb dX8_finishes_78 rfl ?_
            refine lv_iadd hx hb dX8_finishes_79 ?_
            refine m_callv (m_runV (i := nm 0 8) (ci := 4) (As := [.int r_1, .int (10 + v.toInt32)]) (rest := []) X (k_X6_replace Γ l L x 0 8 h_1 d_1 r_1 (10 + v.toInt32) pO8 (by omega)) v_X6_replace ml_X8_124 hw hS (p_obj Γ L (c := sP x 0 8 (h_1, d_1)) pO8) rfl rfl rfl hl.1 ⟨Nat.le_of_ble_eq_true rfl, Nat.le_of_ble_eq_true rfl⟩ (Nat.le_of_ble_eq_true rfl) ⟨Nat.le_of_ble_eq_true rfl, Nat.le_of_ble_eq_true rfl⟩ dX8_finishes_80) hS (fun L1 M1 H locs hp_10 hw hS => ?_)
            obtain ⟨⟨h_10, d_10⟩, hd_10, e1, e2⟩ := hp_10
            have hd_10 : d_10 ≤ 8 := hd_10
            rw [e1, e2] at hw; clear e1 e2
            refine lv_iconst (v := 1) hx hb dX8_finishes_83 (by decide) ?_
            exact m_zret (b := true) X hr hlk hw hS (Nat.le_of_ble_eq_true rfl) (Nat.le_of_ble_eq_true rfl) rfl ⟨⟨_, rfl⟩, (h_10, d_10), by show d_10 ≤ 8; omega, rfl, rfl⟩ dX8_finishes_84
          · skip
            refine lv_iconst (v := 0) hx hb dX8_finishes_67 (by decide) ?_
            exact m_zret (b := false) X hr hlk hw hS (Nat.le_of_ble_eq_true rfl) (Nat.le_of_ble_eq_true rfl) rfl ⟨⟨_, rfl⟩, (h_1, d_1), by show d_1 ≤ 8; omega, rfl, rfl⟩ dX8_finishes_68
    · skip
      have c_5 := bI_f c_5
      refine lv_iconst (v := 0) hx hb dX8_finishes_24 (by decide) ?_
      exact m_zret (b := false) X hr hlk hw hS (Nat.le_of_ble_eq_true rfl) (Nat.le_of_ble_eq_true rfl) rfl ⟨⟨_, rfl⟩, (h_1, d_1), by show d_1 ≤ 8; omega, rfl, rfl⟩ dX8_finishes_25
theorem v_X8_calls : mVm yX8_calls cX8_calls 7 (some .boolean) 3 := ⟨cd_X8_calls, im_X8_calls, se_X8_calls, ini_X8, by decide, by decide, by decide +kernel⟩
set_option maxHeartbeats 4000000 in
set_option maxRecDepth 100000 in
theorem k_X8_calls (Γ : mG) (l : Launch) (L : mI → Nat) (x : CS) (h : Nat → Int32) (d : Nat) (cm : Nat) (v : Int64) (hd : d ≤ 8) (hI : CInv x) (hm : cm < cN x) : mMet Γ l yX8_calls cX8_calls 7 (some .boolean) { frames := 3, cells := 0, slots := 0, locals := 63 } [.ref (L (nm 0 7)), .ref (L (nm 0 1)), .ref (L (nm (cm + 2) 0)), .long v] L (cM Γ L (sP x 0 8 (h, d))) (mQi Γ (mPz Γ L x 0 8)) := by
  refine m_start (by decide) (Nat.le_of_ble_eq_true rfl) ?_
  intro p e s m args below meth c A ls X hr hlk hnm hw hS hl
  have hx := X.1.1
  have hb := X.1.2.1
  have hl : lv_has ls 7 [(0, .ref (L (nm 0 7))), (1, .ref (L (nm 0 1))), (2, .ref (L (nm (cm + 2) 0))), (3, .long v)] := hl
  refine lv_lload_n hx hb dX8_calls_0 rfl (lv_at hl 3 rfl) ?_
  refine lv_aload_n hx hb dX8_calls_1 rfl (lv_at hl 2 rfl) ?_
  refine s_get (a := cm + 2) (b := 0) (ci := 0) X hw (c_cell hm 0 _ _ _) rfl gX0 0 (by decide) fl_X8_142 rfl rfl dX8_calls_2 ?_
  refine lv_i2l (v := (nI cm).toInt64) hx hb dX8_calls_5 rfl ?_
  refine m_lcmp_ge (tgt := 18) hx hb dX8_calls_6 dX8_calls_7 (by decide) (fun c_1 => ?_) (fun c_1 => ?_)
  · skip
    refine lv_null hx hb dX8_calls_18 ?_
    refine lv_astoreN (lv' := [(5, .null), (0, .ref (L (nm 0 7))), (1, .ref (L (nm 0 1))), (2, .ref (L (nm (cm + 2) 0))), (3, .long v)]) hx hb dX8_calls_19 hl (by decide) rfl (fun ls hl => ?_)
    refine lv_aloadN hx hb dX8_calls_21 (lv_at hl 0 rfl) ?_
    refine lv_ifnonnullN hx hb dX8_calls_23 ?_
    refine lv_iconst (v := 0) hx hb dX8_calls_26 (by decide) ?_
    exact m_zret (b := false) X hr hlk hw hS (Nat.le_of_ble_eq_true rfl) (Nat.le_of_ble_eq_true rfl) rfl ⟨⟨_, rfl⟩, (h, d), by show d ≤ 8; omega, rfl, rfl⟩ dX8_calls_27
  · skip
    refine lv_aload_n hx hb dX8_calls_10 rfl (lv_at hl 1 rfl) ?_
    refine lv_lload_n hx hb dX8_calls_11 rfl (lv_at hl 3 rfl) ?_
    refine m_callq (m_runV (i := nm 0 1) (ci := 5) (As := [.long v]) (rest := []) X (k_X7_at Γ l L (sP x 0 8 (h, d)) v hI.1) v_X7_at ml_X8_145 hw hS rfl rfl rfl rfl hl.1 ⟨Nat.le_of_ble_eq_true rfl, Nat.le_of_ble_eq_true rfl⟩ (Nat.le_of_ble_eq_true rfl) ⟨Nat.le_of_ble_eq_true rfl, Nat.le_of_ble_eq_true rfl⟩ dX8_calls_12) hS (fun r_2 L1 M1 H locs hp_2 hw hS => ?_)
    obtain ⟨e1, e2, hq_2⟩ := hp_2
    rw [e1, e2] at hw; clear e1 e2
    rcases hq_2 with ⟨rfl, hno_2⟩ | ⟨k_2, hk_2, ev_2, rfl⟩
    · skip
      refine va_rf_none ?_
      refine lv_goto (tgt := 19) hx hb dX8_calls_15 (by decide) ?_
      refine lv_astoreN (lv' := [(5, .null), (0, .ref (L (nm 0 7))), (1, .ref (L (nm 0 1))), (2, .ref (L (nm (cm + 2) 0))), (3, .long v)]) hx hb dX8_calls_19 hl (by decide) rfl (fun ls hl => ?_)
      refine lv_aloadN hx hb dX8_calls_21 (lv_at hl 0 rfl) ?_
      refine lv_ifnonnullN hx hb dX8_calls_23 ?_
      refine lv_iconst (v := 0) hx hb dX8_calls_26 (by decide) ?_
      exact m_zret (b := false) X hr hlk hw hS (Nat.le_of_ble_eq_true rfl) (Nat.le_of_ble_eq_true rfl) rfl ⟨⟨_, rfl⟩, (h, d), by show d ≤ 8; omega, rfl, rfl⟩ dX8_calls_27
    · skip
      refine va_rf_some ?_
      have KL : ∀ (n : Nat) (t : Nat) (j : Int32) (g : Nat → Int32) (dd : Nat) (H : Heap) (locs : List Loc) (ls : Array Slot), t + n = 4 → j = nI t → dd ≤ 8 → mW Γ.1 vwCl A L (cM Γ L (sP x 0 8 (g, dd))) H → va_S A s.heap H locs → lv_has ls 7 [(6, .int j), (5, .ref (L (nm (k_2 + 2) 0))), (0, .ref (L (nm 0 7)))] → W p l e { frames := 3, cells := 0, slots := 0, locals := 63 } s m args below meth c H locs 0 0 (MQ below (mQi Γ (mPz Γ L x 0 8) A) args s 0 0 A) (F0 m 31 ls []) := by
        intro n
        induction n with
        | zero =>
          intro t j g dd H locs ls f0 f1 f2 hw hS hl
          refine lv_iload hx hb dX8_calls_31 (lv_at hl 0 rfl) ?_
          refine lv_aload hx hb dX8_calls_33 (lv_at hl 1 rfl) ?_
          refine s_get (a := k_2 + 2) (b := 0) (ci := 0) X hw (c_cell hk_2 0 _ _ _) rfl gX0 1 (by decide) fl_X8_151 rfl rfl dX8_calls_35 ?_
          obtain ⟨z_3, hz_3, ez_3⟩ := ((CInv.putP (a := 0) (b := 8) (q := (g, dd)) hI pO8 (by show dd ≤ 8; omega)).2.1 k_2 hk_2).1
          refine lv_icmp_ge (tgt := 60) hx hb dX8_calls_38 (by decide) (fun c_4 => ?_) (fun c_4 => ?_)
          · skip
            have c_4n : t ≥ z_3 := ngeT (a := t) (b := z_3) f1 ez_3 (by omega) (by omega) c_4
            have c_4m : ¬ t < z_3 := by omega
            refine lv_aload_n hx hb dX8_calls_60 rfl (lv_at hl 2 rfl) ?_
            refine s_get (a := 0) (b := 7) (ci := 6) X hw rfl rfl gX8 0 (by decide) fl_X8_10 rfl rfl dX8_calls_61 ?_
            refine lv_iconst (v := 1) hx hb dX8_calls_64 (by decide) ?_
            refine m_calli (m_runV (i := nm 0 8) (ci := 4) (As := [.int 1]) (rest := []) X (k_X6_push Γ l L x 0 8 g dd 1 pO8 (by omega)) v_X6_push ml_X8_74 hw hS (p_obj Γ L (c := sP x 0 8 (g, dd)) pO8) rfl rfl rfl hl.1 ⟨Nat.le_of_ble_eq_true rfl, Nat.le_of_ble_eq_true rfl⟩ (Nat.le_of_ble_eq_true rfl) ⟨Nat.le_of_ble_eq_true rfl, Nat.le_of_ble_eq_true rfl⟩ dX8_calls_65) hS (fun r_5 L1 M1 H locs hp_5 hw hS => ?_)
            obtain ⟨⟨t_5, rfl⟩, ⟨h_5, d_5⟩, hd_5, e1, e2⟩ := hp_5
            have hd_5 : d_5 ≤ 8 := hd_5
            rw [e1, e2] at hw; clear e1 e2
            exact m_zret (b := t_5) X hr hlk hw hS (Nat.le_of_ble_eq_true rfl) (Nat.le_of_ble_eq_true rfl) rfl ⟨⟨_, rfl⟩, (h_5, d_5), by show d_5 ≤ 8; omega, rfl, rfl⟩ dX8_calls_68
          · skip
            have c_4n : ¬ t ≥ z_3 := ngeF (a := t) (b := z_3) f1 ez_3 (by omega) (by omega) c_4
            have c_4m : t < z_3 := by omega
            refine lv_aload_n hx hb dX8_calls_41 rfl (lv_at hl 2 rfl) ?_
            refine s_get (a := 0) (b := 7) (ci := 6) X hw rfl rfl gX8 0 (by decide) fl_X8_10 rfl rfl dX8_calls_42 ?_
            refine lv_iconst (v := 1) hx hb dX8_calls_45 (by decide) ?_
            refine m_calli (m_runV (i := nm 0 8) (ci := 4) (As := [.int 1]) (rest := []) X (k_X6_pop Γ l L x 0 8 g dd 1 pO8 (by omega) (by first | decide | assumption)) v_X6_pop ml_X8_115 hw hS (p_obj Γ L (c := sP x 0 8 (g, dd)) pO8) rfl rfl rfl hl.1 ⟨Nat.le_of_ble_eq_true rfl, Nat.le_of_ble_eq_true rfl⟩ (Nat.le_of_ble_eq_true rfl) ⟨Nat.le_of_ble_eq_true rfl, Nat.le_of_ble_eq_true rfl⟩ dX8_calls_46) hS (fun r_6 L1 M1 H locs hp_6 hw hS => ?_)
            obtain ⟨⟨t_6, rfl⟩, ⟨h_6, d_6⟩, hd_6, e1, e2⟩ := hp_6
            have hd_6 : d_6 ≤ 8 := hd_6
            rw [e1, e2] at hw; clear e1 e2
            refine lv_if_ne (tgt := 54) hx hb dX8_calls_49 (by decide) (fun c_7 => ?_) (fun c_7 => ?_)
            · skip
              have c_7 := bI_t c_7
              refine lv_iinc (v := j + 1) (lv' := [(6, .int (j + 1)), (5, .ref (L (nm (k_2 + 2) 0))), (0, .ref (L (nm 0 7)))]) hx hb dX8_calls_54 hl (k := 0) rfl rfl (by decide) rfl (fun ls hl => ?_)
              refine lv_goto (tgt := 31) hx hb dX8_calls_57 (by decide) ?_
              exact (by omega : False).elim
            · skip
              have c_7 := bI_f c_7
              refine lv_iconst (v := 0) hx hb dX8_calls_52 (by decide) ?_
              exact m_zret (b := false) X hr hlk hw hS (Nat.le_of_ble_eq_true rfl) (Nat.le_of_ble_eq_true rfl) rfl ⟨⟨_, rfl⟩, (h_6, d_6), by show d_6 ≤ 8; omega, rfl, rfl⟩ dX8_calls_53
        | succ n ih =>
          intro t j g dd H locs ls f0 f1 f2 hw hS hl
          refine lv_iload hx hb dX8_calls_31 (lv_at hl 0 rfl) ?_
          refine lv_aload hx hb dX8_calls_33 (lv_at hl 1 rfl) ?_
          refine s_get (a := k_2 + 2) (b := 0) (ci := 0) X hw (c_cell hk_2 0 _ _ _) rfl gX0 1 (by decide) fl_X8_151 rfl rfl dX8_calls_35 ?_
          obtain ⟨z_8, hz_8, ez_8⟩ := ((CInv.putP (a := 0) (b := 8) (q := (g, dd)) hI pO8 (by show dd ≤ 8; omega)).2.1 k_2 hk_2).1
          refine lv_icmp_ge (tgt := 60) hx hb dX8_calls_38 (by decide) (fun c_9 => ?_) (fun c_9 => ?_)
          · skip
            have c_9n : t ≥ z_8 := ngeT (a := t) (b := z_8) f1 ez_8 (by omega) (by omega) c_9
            have c_9m : ¬ t < z_8 := by omega
            refine lv_aload_n hx hb dX8_calls_60 rfl (lv_at hl 2 rfl) ?_
            refine s_get (a := 0) (b := 7) (ci := 6) X hw rfl rfl gX8 0 (by decide) fl_X8_10 rfl rfl dX8_calls_61 ?_
            refine lv_iconst (v := 1) hx hb dX8_calls_64 (by decide) ?_
            refine m_calli (m_runV (i := nm 0 8) (ci := 4) (As := [.int 1]) (rest := []) X (k_X6_push Γ l L x 0 8 g dd 1 pO8 (by omega)) v_X6_push ml_X8_74 hw hS (p_obj Γ L (c := sP x 0 8 (g, dd)) pO8) rfl rfl rfl hl.1 ⟨Nat.le_of_ble_eq_true rfl, Nat.le_of_ble_eq_true rfl⟩ (Nat.le_of_ble_eq_true rfl) ⟨Nat.le_of_ble_eq_true rfl, Nat.le_of_ble_eq_true rfl⟩ dX8_calls_65) hS (fun r_10 L1 M1 H locs hp_10 hw hS => ?_)
            obtain ⟨⟨t_10, rfl⟩, ⟨h_10, d_10⟩, hd_10, e1, e2⟩ := hp_10
            have hd_10 : d_10 ≤ 8 := hd_10
            rw [e1, e2] at hw; clear e1 e2
            exact m_zret (b := t_10) X hr hlk hw hS (Nat.le_of_ble_eq_true rfl) (Nat.le_of_ble_eq_true rfl) rfl ⟨⟨_, rfl⟩, (h_10, d_10), by show d_10 ≤ 8; omega, rfl, rfl⟩ dX8_calls_68
          · skip
            have c_9n : ¬ t ≥ z_8 := ngeF (a := t) (b := z_8) f1 ez_8 (by omega) (by omega) c_9
            have c_9m : t < z_8 := by omega
            refine lv_aload_n hx hb dX8_calls_41 rfl (lv_at hl 2 rfl) ?_
            refine s_get (a := 0) (b := 7) (ci := 6) X hw rfl rfl gX8 0 (by decide) fl_X8_10 rfl rfl dX8_calls_42 ?_
            refine lv_iconst (v := 1) hx hb dX8_calls_45 (by decide) ?_
            refine m_calli (m_runV (i := nm 0 8) (ci := 4) (As := [.int 1]) (rest := []) X (k_X6_pop Γ l L x 0 8 g dd 1 pO8 (by omega) (by first | decide | assumption)) v_X6_pop ml_X8_115 hw hS (p_obj Γ L (c := sP x 0 8 (g, dd)) pO8) rfl rfl rfl hl.1 ⟨Nat.le_of_ble_eq_true rfl, Nat.le_of_ble_eq_true rfl⟩ (Nat.le_of_ble_eq_true rfl) ⟨Nat.le_of_ble_eq_true rfl, Nat.le_of_ble_eq_true rfl⟩ dX8_calls_46) hS (fun r_11 L1 M1 H locs hp_11 hw hS => ?_)
            obtain ⟨⟨t_11, rfl⟩, ⟨h_11, d_11⟩, hd_11, e1, e2⟩ := hp_11
            have hd_11 : d_11 ≤ 8 := hd_11
            rw [e1, e2] at hw; clear e1 e2
            refine lv_if_ne (tgt := 54) hx hb dX8_calls_49 (by decide) (fun c_12 => ?_) (fun c_12 => ?_)
            · skip
              have c_12 := bI_t c_12
              refine lv_iinc (v := j + 1) (lv' := [(6, .int (j + 1)), (5, .ref (L (nm (k_2 + 2) 0))), (0, .ref (L (nm 0 7)))]) hx hb dX8_calls_54 hl (k := 0) rfl rfl (by decide) rfl (fun ls hl => ?_)
              refine lv_goto (tgt := 31) hx hb dX8_calls_57 (by decide) ?_
              exact ih (t + 1) _ _ _ _ _ ls (by omega) (nadd (a := t) (b := 1) f1 rfl) (by omega) hw hS (lv_sub hl [0, 1, 2] rfl)
            · skip
              have c_12 := bI_f c_12
              refine lv_iconst (v := 0) hx hb dX8_calls_52 (by decide) ?_
              exact m_zret (b := false) X hr hlk hw hS (Nat.le_of_ble_eq_true rfl) (Nat.le_of_ble_eq_true rfl) rfl ⟨⟨_, rfl⟩, (h_11, d_11), by show d_11 ≤ 8; omega, rfl, rfl⟩ dX8_calls_53
      refine lv_goto (tgt := 19) hx hb dX8_calls_15 (by decide) ?_
      refine lv_astore (lv' := [(5, .ref (L (nm (k_2 + 2) 0))), (0, .ref (L (nm 0 7))), (1, .ref (L (nm 0 1))), (2, .ref (L (nm (cm + 2) 0))), (3, .long v)]) hx hb dX8_calls_19 hl (by decide) rfl (fun ls hl => ?_)
      refine lv_aload hx hb dX8_calls_21 (lv_at hl 0 rfl) ?_
      refine lv_ifnonnull (tgt := 28) hx hb dX8_calls_23 (by decide) ?_
      refine lv_iconst (v := 0) hx hb dX8_calls_28 (by decide) ?_
      refine lv_istore (lv' := [(6, .int 0), (5, .ref (L (nm (k_2 + 2) 0))), (0, .ref (L (nm 0 7))), (1, .ref (L (nm 0 1))), (2, .ref (L (nm (cm + 2) 0))), (3, .long v)]) hx hb dX8_calls_29 hl (by decide) rfl (fun ls hl => ?_)
      exact KL 4 0 _ _ _ _ _ ls rfl rfl (by omega) hw hS (lv_sub hl [0, 1, 2] rfl)
theorem v_X8_goesElsewhere : mVm yX8_goesElsewhere cX8_goesElsewhere 5 (some .boolean) 3 := ⟨cd_X8_goesElsewhere, im_X8_goesElsewhere, se_X8_goesElsewhere, ini_X8, by decide, by decide, by decide +kernel⟩
set_option maxHeartbeats 4000000 in
set_option maxRecDepth 100000 in
theorem k_X8_goesElsewhere (Γ : mG) (l : Launch) (L : mI → Nat) (x : CS) (h : Nat → Int32) (d : Nat) (cm : Nat) (o : Int32) (v : Int64) (hd : d ≤ 8) (hI : CInv x) (hm : cm < cN x) : mMet Γ l yX8_goesElsewhere cX8_goesElsewhere 5 (some .boolean) { frames := 3, cells := 0, slots := 0, locals := 63 } [.ref (L (nm 0 7)), .ref (L (nm (cm + 2) 0)), .int o, .long v] L (cM Γ L (sP x 0 8 (h, d))) (mQi Γ (fun r L1 M1 => (∃ t : Bool, r = bI t) ∧ L1 = L ∧ ∃ (v : Int32) (q : PL), q.2 ≤ 8 ∧ M1 = cM Γ L (sP (tS x 0 7 1 v) 0 8 q))) := by
  refine m_start (by decide) (Nat.le_of_ble_eq_true rfl) ?_
  intro p e s m args below meth c A ls X hr hlk hnm hw hS hl
  have hx := X.1.1
  have hb := X.1.2.1
  have hl : lv_has ls 5 [(0, .ref (L (nm 0 7))), (1, .ref (L (nm (cm + 2) 0))), (2, .int o), (3, .long v)] := hl
  refine lv_iload_n hx hb dX8_goesElsewhere_0 rfl (lv_at hl 2 rfl) ?_
  refine lv_bipush (v := 32) hx hb dX8_goesElsewhere_1 (by decide) ?_
  refine lv_icmp_eq (tgt := 12) hx hb dX8_goesElsewhere_3 (by decide) (fun c_1 => ?_) (fun c_1 => ?_)
  · skip
    refine lv_aload_n hx hb dX8_goesElsewhere_12 rfl (lv_at hl 0 rfl) ?_
    refine s_get (a := 0) (b := 7) (ci := 6) X hw rfl rfl gX8 0 (by decide) fl_X8_10 rfl rfl dX8_goesElsewhere_13 ?_
    refine lv_iconst (v := 1) hx hb dX8_goesElsewhere_16 (by decide) ?_
    refine m_calli (m_runV (i := nm 0 8) (ci := 4) (As := [.int 1]) (rest := []) X (k_X6_pop Γ l L x 0 8 h d 1 pO8 (by omega) (by first | decide | assumption)) v_X6_pop ml_X8_115 hw hS (p_obj Γ L (c := sP x 0 8 (h, d)) pO8) rfl rfl rfl hl.1 ⟨Nat.le_of_ble_eq_true rfl, Nat.le_of_ble_eq_true rfl⟩ (Nat.le_of_ble_eq_true rfl) ⟨Nat.le_of_ble_eq_true rfl, Nat.le_of_ble_eq_true rfl⟩ dX8_goesElsewhere_17) hS (fun r_2 L1 M1 H locs hp_2 hw hS => ?_)
    obtain ⟨⟨t_2, rfl⟩, ⟨h_2, d_2⟩, hd_2, e1, e2⟩ := hp_2
    have hd_2 : d_2 ≤ 8 := hd_2
    rw [e1, e2] at hw; clear e1 e2
    exact m_zret (b := t_2) X hr hlk hw hS (Nat.le_of_ble_eq_true rfl) (Nat.le_of_ble_eq_true rfl) rfl ⟨⟨_, rfl⟩, rfl, ⟨x.1 0 7 1, (h_2, d_2), by show d_2 ≤ 8; omega, by rw [tS_id]⟩⟩ dX8_goesElsewhere_20
  · skip
    refine lv_iload_n hx hb dX8_goesElsewhere_6 rfl (lv_at hl 2 rfl) ?_
    refine lv_bipush (v := 34) hx hb dX8_goesElsewhere_7 (by decide) ?_
    refine lv_icmp_ne (tgt := 21) hx hb dX8_goesElsewhere_9 (by decide) (fun c_3 => ?_) (fun c_3 => ?_)
    · skip
      refine lv_aload_n hx hb dX8_goesElsewhere_21 rfl (lv_at hl 1 rfl) ?_
      refine lv_lload_n hx hb dX8_goesElsewhere_22 rfl (lv_at hl 3 rfl) ?_
      refine m_calli (m_runV (i := nm (cm + 2) 0) (ci := 0) (As := [.long v]) (rest := []) X (k_X0_hasInstruction Γ l L (sP x 0 8 (h, d)) cm v hm) v_X0_hasInstruction ml_X8_16 hw hS (c_cell hm 0 _ _ _) rfl rfl rfl hl.1 ⟨Nat.le_of_ble_eq_true rfl, Nat.le_of_ble_eq_true rfl⟩ (Nat.le_of_ble_eq_true rfl) ⟨Nat.le_of_ble_eq_true rfl, Nat.le_of_ble_eq_true rfl⟩ dX8_goesElsewhere_23) hS (fun r_4 L1 M1 H locs hp_4 hw hS => ?_)
      obtain ⟨rfl, e1, e2⟩ := hp_4
      rw [e1, e2] at hw; clear e1 e2
      refine lv_if_ne (tgt := 31) hx hb dX8_goesElsewhere_26 (by decide) (fun c_5 => ?_) (fun c_5 => ?_)
      · skip
        have c_5 := bI_t c_5
        refine lv_aload_n hx hb dX8_goesElsewhere_31 rfl (lv_at hl 0 rfl) ?_
        refine lv_lload_n hx hb dX8_goesElsewhere_32 rfl (lv_at hl 3 rfl) ?_
        refine lv_l2i (v := v.toInt32) hx hb dX8_goesElsewhere_33 rfl ?_
        refine s_put (a := 0) (b := 7) (v := v.toInt32) (ci := 6) (ty := tyX8 1) X hw hS 1 rfl rfl rfl gX8 tyX8 tyX8_ok nmX8 (by decide) fl_X8_30 rfl rfl (tyX8_ok 1 (by decide)) rfl rfl (show 1 < 3 by decide) dX8_goesElsewhere_34 (fun H locs hw hS => ?_)
        rw [sP_tSo (by first | decide | omega)] at hw
        have hI := hI.free (b := 7) (k := 1) (v := v.toInt32) (by decide)
        refine lv_iload_n hx hb dX8_goesElsewhere_37 rfl (lv_at hl 2 rfl) ?_
        refine lv_bipush (v := 30) hx hb dX8_goesElsewhere_38 (by decide) ?_
        refine lv_icmp_ne (tgt := 52) hx hb dX8_goesElsewhere_40 (by decide) (fun c_6 => ?_) (fun c_6 => ?_)
        · skip
          refine lv_iload_n hx hb dX8_goesElsewhere_52 rfl (lv_at hl 2 rfl) ?_
          refine lv_bipush (v := 29) hx hb dX8_goesElsewhere_53 (by decide) ?_
          refine lv_icmp_eq (tgt := 70) hx hb dX8_goesElsewhere_55 (by decide) (fun c_7 => ?_) (fun c_7 => ?_)
          · skip
            refine lv_iconst (v := 1) hx hb dX8_goesElsewhere_70 (by decide) ?_
            refine lv_goto (tgt := 75) hx hb dX8_goesElsewhere_71 (by decide) ?_
            exact m_zret (b := true) X hr hlk hw hS (Nat.le_of_ble_eq_true rfl) (Nat.le_of_ble_eq_true rfl) rfl ⟨⟨_, rfl⟩, rfl, ⟨v.toInt32, (h, d), by show d ≤ 8; omega, rfl⟩⟩ dX8_goesElsewhere_75
          · skip
            refine lv_aload_n hx hb dX8_goesElsewhere_58 rfl (lv_at hl 0 rfl) ?_
            refine s_get (a := 0) (b := 7) (ci := 6) X hw rfl rfl gX8 0 (by decide) fl_X8_10 rfl rfl dX8_goesElsewhere_59 ?_
            refine lv_bipush (v := 10) hx hb dX8_goesElsewhere_62 (by decide) ?_
            refine m_calli (m_runV (i := nm 0 8) (ci := 4) (As := [.int 10]) (rest := []) X (k_X6_pop Γ l L (tS x 0 7 1 v.toInt32) 0 8 h d 10 pO8 (by omega) (by first | decide | assumption)) v_X6_pop ml_X8_115 hw hS (p_obj Γ L (c := sP (tS x 0 7 1 v.toInt32) 0 8 (h, d)) pO8) rfl rfl rfl hl.1 ⟨Nat.le_of_ble_eq_true rfl, Nat.le_of_ble_eq_true rfl⟩ (Nat.le_of_ble_eq_true rfl) ⟨Nat.le_of_ble_eq_true rfl, Nat.le_of_ble_eq_true rfl⟩ dX8_goesElsewhere_64) hS (fun r_8 L1 M1 H locs hp_8 hw hS => ?_)
            obtain ⟨⟨t_8, rfl⟩, ⟨h_8, d_8⟩, hd_8, e1, e2⟩ := hp_8
            have hd_8 : d_8 ≤ 8 := hd_8
            rw [e1, e2] at hw; clear e1 e2
            refine lv_if_eq (tgt := 74) hx hb dX8_goesElsewhere_67 (by decide) (fun c_9 => ?_) (fun c_9 => ?_)
            · skip
              have c_9 := bI_f c_9
              refine lv_iconst (v := 0) hx hb dX8_goesElsewhere_74 (by decide) ?_
              exact m_zret (b := false) X hr hlk hw hS (Nat.le_of_ble_eq_true rfl) (Nat.le_of_ble_eq_true rfl) rfl ⟨⟨_, rfl⟩, rfl, ⟨v.toInt32, (h_8, d_8), by show d_8 ≤ 8; omega, rfl⟩⟩ dX8_goesElsewhere_75
            · skip
              have c_9 := bI_t c_9
              refine lv_iconst (v := 1) hx hb dX8_goesElsewhere_70 (by decide) ?_
              refine lv_goto (tgt := 75) hx hb dX8_goesElsewhere_71 (by decide) ?_
              exact m_zret (b := true) X hr hlk hw hS (Nat.le_of_ble_eq_true rfl) (Nat.le_of_ble_eq_true rfl) rfl ⟨⟨_, rfl⟩, rfl, ⟨v.toInt32, (h_8, d_8), by show d_8 ≤ 8; omega, rfl⟩⟩ dX8_goesElsewhere_75
        · skip
          refine lv_aload_n hx hb dX8_goesElsewhere_43 rfl (lv_at hl 0 rfl) ?_
          refine s_get (a := 0) (b := 7) (ci := 6) X hw rfl rfl gX8 0 (by decide) fl_X8_10 rfl rfl dX8_goesElsewhere_44 ?_
          refine lv_iconst (v := 1) hx hb dX8_goesElsewhere_47 (by decide) ?_
          refine m_calli (m_runV (i := nm 0 8) (ci := 4) (As := [.int 1]) (rest := []) X (k_X6_pop Γ l L (tS x 0 7 1 v.toInt32) 0 8 h d 1 pO8 (by omega) (by first | decide | assumption)) v_X6_pop ml_X8_115 hw hS (p_obj Γ L (c := sP (tS x 0 7 1 v.toInt32) 0 8 (h, d)) pO8) rfl rfl rfl hl.1 ⟨Nat.le_of_ble_eq_true rfl, Nat.le_of_ble_eq_true rfl⟩ (Nat.le_of_ble_eq_true rfl) ⟨Nat.le_of_ble_eq_true rfl, Nat.le_of_ble_eq_true rfl⟩ dX8_goesElsewhere_48) hS (fun r_10 L1 M1 H locs hp_10 hw hS => ?_)
          obtain ⟨⟨t_10, rfl⟩, ⟨h_10, d_10⟩, hd_10, e1, e2⟩ := hp_10
          have hd_10 : d_10 ≤ 8 := hd_10
          rw [e1, e2] at hw; clear e1 e2
          exact m_zret (b := t_10) X hr hlk hw hS (Nat.le_of_ble_eq_true rfl) (Nat.le_of_ble_eq_true rfl) rfl ⟨⟨_, rfl⟩, rfl, ⟨v.toInt32, (h_10, d_10), by show d_10 ≤ 8; omega, rfl⟩⟩ dX8_goesElsewhere_51
      · skip
        have c_5 := bI_f c_5
        refine lv_iconst (v := 0) hx hb dX8_goesElsewhere_29 (by decide) ?_
        exact m_zret (b := false) X hr hlk hw hS (Nat.le_of_ble_eq_true rfl) (Nat.le_of_ble_eq_true rfl) rfl ⟨⟨_, rfl⟩, rfl, ⟨x.1 0 7 1, (h, d), by show d ≤ 8; omega, by rw [tS_id]⟩⟩ dX8_goesElsewhere_30
    · skip
      refine lv_aload_n hx hb dX8_goesElsewhere_12 rfl (lv_at hl 0 rfl) ?_
      refine s_get (a := 0) (b := 7) (ci := 6) X hw rfl rfl gX8 0 (by decide) fl_X8_10 rfl rfl dX8_goesElsewhere_13 ?_
      refine lv_iconst (v := 1) hx hb dX8_goesElsewhere_16 (by decide) ?_
      refine m_calli (m_runV (i := nm 0 8) (ci := 4) (As := [.int 1]) (rest := []) X (k_X6_pop Γ l L x 0 8 h d 1 pO8 (by omega) (by first | decide | assumption)) v_X6_pop ml_X8_115 hw hS (p_obj Γ L (c := sP x 0 8 (h, d)) pO8) rfl rfl rfl hl.1 ⟨Nat.le_of_ble_eq_true rfl, Nat.le_of_ble_eq_true rfl⟩ (Nat.le_of_ble_eq_true rfl) ⟨Nat.le_of_ble_eq_true rfl, Nat.le_of_ble_eq_true rfl⟩ dX8_goesElsewhere_17) hS (fun r_11 L1 M1 H locs hp_11 hw hS => ?_)
      obtain ⟨⟨t_11, rfl⟩, ⟨h_11, d_11⟩, hd_11, e1, e2⟩ := hp_11
      have hd_11 : d_11 ≤ 8 := hd_11
      rw [e1, e2] at hw; clear e1 e2
      exact m_zret (b := t_11) X hr hlk hw hS (Nat.le_of_ble_eq_true rfl) (Nat.le_of_ble_eq_true rfl) rfl ⟨⟨_, rfl⟩, rfl, ⟨x.1 0 7 1, (h_11, d_11), by show d_11 ≤ 8; omega, by rw [tS_id]⟩⟩ dX8_goesElsewhere_20
theorem v_X8_does : mVm yX8_does cX8_does 7 (some .boolean) 3 := ⟨cd_X8_does, im_X8_does, se_X8_does, ini_X8, by decide, by decide, by decide +kernel⟩
set_option maxHeartbeats 4000000 in
set_option maxRecDepth 100000 in
theorem k_X8_does (Γ : mG) (l : Launch) (L : mI → Nat) (x : CS) (h : Nat → Int32) (d : Nat) (cm : Nat) (k : Int32) (hd : d ≤ 8) (hI : CInv x) (hm : cm < cN x) : mMet Γ l yX8_does cX8_does 7 (some .boolean) { frames := 4, cells := 0, slots := 0, locals := 90 } [.ref (L (nm 0 7)), .ref (L (nm 0 1)), .ref (L (nm (cm + 2) 0)), .int k] L (cM Γ L (sP x 0 8 (h, d))) (mQi Γ (fun r L1 M1 => (∃ t : Bool, r = bI t) ∧ L1 = L ∧ ∃ (v w : Int32) (q : PL), q.2 ≤ 8 ∧ M1 = cM Γ L (sP (tS (tS x 0 7 1 v) 0 7 2 w) 0 8 q))) := by
  refine m_start (by decide) (Nat.le_of_ble_eq_true rfl) ?_
  intro p e s m args below meth c A ls X hr hlk hnm hw hS hl
  have hx := X.1.1
  have hb := X.1.2.1
  have hl : lv_has ls 7 [(0, .ref (L (nm 0 7))), (1, .ref (L (nm 0 1))), (2, .ref (L (nm (cm + 2) 0))), (3, .int k)] := hl
  have K62_0 : ∀ (o : Int32) (v : Int64) (H : Heap) (locs : List Loc) (ls : Array Slot), mW Γ.1 vwCl A L (cM Γ L (sP (tS (tS x 0 7 1 (-1)) 0 7 2 0) 0 8 (h, d))) H → va_S A s.heap H locs → lv_has ls 7 [(4, .int o), (5, .long v), (0, .ref (L (nm 0 7))), (1, .ref (L (nm 0 1))), (2, .ref (L (nm (cm + 2) 0))), (3, .int k)] → W p l e { frames := 4, cells := 0, slots := 0, locals := 90 } s m args below meth c H locs 0 0 (MQ below (mQi Γ (fun r L1 M1 => (∃ t : Bool, r = bI t) ∧ L1 = L ∧ ∃ (v w : Int32) (q : PL), q.2 ≤ 8 ∧ M1 = cM Γ L (sP (tS (tS x 0 7 1 v) 0 7 2 w) 0 8 q)) A) args s 0 0 A) (F0 m 62 ls []) := by
    intro o v H locs ls hw hS hl
    have hI := (hI.free (b := 7) (k := 1) (v := -1) (by decide)).free (b := 7) (k := 2) (v := 0) (by decide)
    refine lv_iload hx hb dX8_does_62 (lv_at hl 0 rfl) ?_
    refine lv_if_lt (tgt := 74) hx hb dX8_does_64 (by decide) (fun c_1 => ?_) (fun c_1 => ?_)
    · skip
      refine lv_iconst (v := 0) hx hb dX8_does_74 (by decide) ?_
      exact m_zret (b := false) X hr hlk hw hS (Nat.le_of_ble_eq_true rfl) (Nat.le_of_ble_eq_true rfl) rfl ⟨⟨_, rfl⟩, rfl, ⟨-1, 0, (h, d), by show d ≤ 8; omega, rfl⟩⟩ dX8_does_75
    · skip
      refine lv_iload hx hb dX8_does_67 (lv_at hl 0 rfl) ?_
      refine lv_bipush (v := 34) hx hb dX8_does_69 (by decide) ?_
      refine lv_icmp_le (tgt := 76) hx hb dX8_does_71 (by decide) (fun c_2 => ?_) (fun c_2 => ?_)
      · skip
        refine lv_iload hx hb dX8_does_76 (lv_at hl 0 rfl) ?_
        refine lv_bipush (v := 6) hx hb dX8_does_78 (by decide) ?_
        refine lv_icmp_gt (tgt := 92) hx hb dX8_does_80 (by decide) (fun c_3 => ?_) (fun c_3 => ?_)
        · skip
          refine lv_iload hx hb dX8_does_92 (lv_at hl 0 rfl) ?_
          refine lv_bipush (v := 11) hx hb dX8_does_94 (by decide) ?_
          refine lv_icmp_gt (tgt := 108) hx hb dX8_does_96 (by decide) (fun c_4 => ?_) (fun c_4 => ?_)
          · skip
            refine lv_iload hx hb dX8_does_108 (lv_at hl 0 rfl) ?_
            refine lv_bipush (v := 13) hx hb dX8_does_110 (by decide) ?_
            refine lv_icmp_gt (tgt := 140) hx hb dX8_does_112 (by decide) (fun c_5 => ?_) (fun c_5 => ?_)
            · skip
              refine lv_iload hx hb dX8_does_140 (lv_at hl 0 rfl) ?_
              refine lv_bipush (v := 20) hx hb dX8_does_142 (by decide) ?_
              refine lv_icmp_gt (tgt := 156) hx hb dX8_does_144 (by decide) (fun c_6 => ?_) (fun c_6 => ?_)
              · skip
                refine lv_iload hx hb dX8_does_156 (lv_at hl 0 rfl) ?_
                refine lv_bipush (v := 25) hx hb dX8_does_158 (by decide) ?_
                refine lv_icmp_gt (tgt := 172) hx hb dX8_does_160 (by decide) (fun c_7 => ?_) (fun c_7 => ?_)
                · skip
                  refine lv_iload hx hb dX8_does_172 (lv_at hl 0 rfl) ?_
                  refine lv_bipush (v := 28) hx hb dX8_does_174 (by decide) ?_
                  refine lv_icmp_gt (tgt := 186) hx hb dX8_does_176 (by decide) (fun c_8 => ?_) (fun c_8 => ?_)
                  · skip
                    refine lv_iload hx hb dX8_does_186 (lv_at hl 0 rfl) ?_
                    refine lv_bipush (v := 33) hx hb dX8_does_188 (by decide) ?_
                    refine lv_icmp_ne (tgt := 204) hx hb dX8_does_190 (by decide) (fun c_9 => ?_) (fun c_9 => ?_)
                    · skip
                      refine lv_aload_n hx hb dX8_does_204 rfl (lv_at hl 2 rfl) ?_
                      refine lv_aload_n hx hb dX8_does_205 rfl (lv_at hl 4 rfl) ?_
                      refine lv_iload hx hb dX8_does_206 (lv_at hl 0 rfl) ?_
                      refine lv_lload hx hb dX8_does_208 (lv_at hl 1 rfl) ?_
                      refine m_calli (m_runV (i := nm 0 7) (ci := 6) (As := [.ref (L (nm (cm + 2) 0)), .int o, .long v]) (rest := []) X (k_X8_goesElsewhere Γ l L (tS (tS x 0 7 1 (-1)) 0 7 2 0) h d cm o v (by omega) hI hm) v_X8_goesElsewhere ml_X8_68 hw hS rfl rfl rfl rfl hl.1 ⟨Nat.le_of_ble_eq_true rfl, Nat.le_of_ble_eq_true rfl⟩ (Nat.le_of_ble_eq_true rfl) ⟨Nat.le_of_ble_eq_true rfl, Nat.le_of_ble_eq_true rfl⟩ dX8_does_210) hS (fun r_10 L1 M1 H locs hp_10 hw hS => ?_)
                      obtain ⟨⟨t_10, rfl⟩, e1, v_10, ⟨h_10, d_10⟩, hd_10, e2⟩ := hp_10
                      have hd_10 : d_10 ≤ 8 := hd_10
                      rw [e1, e2] at hw; clear e1 e2
                      exact m_zret (b := t_10) X hr hlk hw hS (Nat.le_of_ble_eq_true rfl) (Nat.le_of_ble_eq_true rfl) rfl ⟨⟨_, rfl⟩, rfl, ⟨v_10, 0, (h_10, d_10), by show d_10 ≤ 8; omega, by rw [tS_sw]⟩⟩ dX8_does_213
                    · skip
                      refine lv_aload_n hx hb dX8_does_193 rfl (lv_at hl 2 rfl) ?_
                      refine lv_aload_n hx hb dX8_does_194 rfl (lv_at hl 3 rfl) ?_
                      refine lv_aload_n hx hb dX8_does_195 rfl (lv_at hl 4 rfl) ?_
                      refine lv_lload hx hb dX8_does_196 (lv_at hl 1 rfl) ?_
                      refine m_calli (m_runV (i := nm 0 7) (ci := 6) (As := [.ref (L (nm 0 1)), .ref (L (nm (cm + 2) 0)), .long v]) (rest := []) X (k_X8_calls Γ l L (tS (tS x 0 7 1 (-1)) 0 7 2 0) h d cm v (by omega) hI hm) v_X8_calls ml_X8_64 hw hS rfl rfl rfl rfl hl.1 ⟨Nat.le_of_ble_eq_true rfl, Nat.le_of_ble_eq_true rfl⟩ (Nat.le_of_ble_eq_true rfl) ⟨Nat.le_of_ble_eq_true rfl, Nat.le_of_ble_eq_true rfl⟩ dX8_does_198) hS (fun r_11 L1 M1 H locs hp_11 hw hS => ?_)
                      obtain ⟨⟨t_11, rfl⟩, ⟨h_11, d_11⟩, hd_11, e1, e2⟩ := hp_11
                      have hd_11 : d_11 ≤ 8 := hd_11
                      rw [e1, e2] at hw; clear e1 e2
                      refine lv_goto (tgt := 213) hx hb dX8_does_201 (by decide) ?_
                      exact m_zret (b := t_11) X hr hlk hw hS (Nat.le_of_ble_eq_true rfl) (Nat.le_of_ble_eq_true rfl) rfl ⟨⟨_, rfl⟩, rfl, ⟨-1, 0, (h_11, d_11), by show d_11 ≤ 8; omega, rfl⟩⟩ dX8_does_213
                  · skip
                    refine lv_aload_n hx hb dX8_does_179 rfl (lv_at hl 2 rfl) ?_
                    refine lv_iload hx hb dX8_does_180 (lv_at hl 0 rfl) ?_
                    refine m_calli (m_runV (i := nm 0 7) (ci := 6) (As := [.int o]) (rest := []) X (k_X8_turns Γ l L (tS (tS x 0 7 1 (-1)) 0 7 2 0) h d o (by omega)) v_X8_turns ml_X8_60 hw hS rfl rfl rfl rfl hl.1 ⟨Nat.le_of_ble_eq_true rfl, Nat.le_of_ble_eq_true rfl⟩ (Nat.le_of_ble_eq_true rfl) ⟨Nat.le_of_ble_eq_true rfl, Nat.le_of_ble_eq_true rfl⟩ dX8_does_182) hS (fun r_12 L1 M1 H locs hp_12 hw hS => ?_)
                    obtain ⟨⟨t_12, rfl⟩, ⟨h_12, d_12⟩, hd_12, e1, e2⟩ := hp_12
                    have hd_12 : d_12 ≤ 8 := hd_12
                    rw [e1, e2] at hw; clear e1 e2
                    exact m_zret (b := t_12) X hr hlk hw hS (Nat.le_of_ble_eq_true rfl) (Nat.le_of_ble_eq_true rfl) rfl ⟨⟨_, rfl⟩, rfl, ⟨-1, 0, (h_12, d_12), by show d_12 ≤ 8; omega, rfl⟩⟩ dX8_does_185
                · skip
                  refine lv_aload_n hx hb dX8_does_163 rfl (lv_at hl 2 rfl) ?_
                  refine lv_iload hx hb dX8_does_164 (lv_at hl 0 rfl) ?_
                  refine lv_lload hx hb dX8_does_166 (lv_at hl 1 rfl) ?_
                  refine m_calli (m_runV (i := nm 0 7) (ci := 6) (As := [.int o, .long v]) (rest := []) X (k_X8_usesObject Γ l L (tS (tS x 0 7 1 (-1)) 0 7 2 0) h d o v (by omega)) v_X8_usesObject ml_X8_57 hw hS rfl rfl rfl rfl hl.1 ⟨Nat.le_of_ble_eq_true rfl, Nat.le_of_ble_eq_true rfl⟩ (Nat.le_of_ble_eq_true rfl) ⟨Nat.le_of_ble_eq_true rfl, Nat.le_of_ble_eq_true rfl⟩ dX8_does_168) hS (fun r_13 L1 M1 H locs hp_13 hw hS => ?_)
                  obtain ⟨⟨t_13, rfl⟩, ⟨h_13, d_13⟩, hd_13, e1, e2⟩ := hp_13
                  have hd_13 : d_13 ≤ 8 := hd_13
                  rw [e1, e2] at hw; clear e1 e2
                  exact m_zret (b := t_13) X hr hlk hw hS (Nat.le_of_ble_eq_true rfl) (Nat.le_of_ble_eq_true rfl) rfl ⟨⟨_, rfl⟩, rfl, ⟨-1, 0, (h_13, d_13), by show d_13 ≤ 8; omega, rfl⟩⟩ dX8_does_171
              · skip
                refine lv_aload_n hx hb dX8_does_147 rfl (lv_at hl 2 rfl) ?_
                refine lv_iload hx hb dX8_does_148 (lv_at hl 0 rfl) ?_
                refine lv_lload hx hb dX8_does_150 (lv_at hl 1 rfl) ?_
                refine m_calli (m_runV (i := nm 0 7) (ci := 6) (As := [.int o, .long v]) (rest := []) X (k_X8_usesArray Γ l L (tS (tS x 0 7 1 (-1)) 0 7 2 0) h d o v (by omega)) v_X8_usesArray ml_X8_54 hw hS rfl rfl rfl rfl hl.1 ⟨Nat.le_of_ble_eq_true rfl, Nat.le_of_ble_eq_true rfl⟩ (Nat.le_of_ble_eq_true rfl) ⟨Nat.le_of_ble_eq_true rfl, Nat.le_of_ble_eq_true rfl⟩ dX8_does_152) hS (fun r_14 L1 M1 H locs hp_14 hw hS => ?_)
                obtain ⟨⟨t_14, rfl⟩, ⟨h_14, d_14⟩, hd_14, e1, e2⟩ := hp_14
                have hd_14 : d_14 ≤ 8 := hd_14
                rw [e1, e2] at hw; clear e1 e2
                exact m_zret (b := t_14) X hr hlk hw hS (Nat.le_of_ble_eq_true rfl) (Nat.le_of_ble_eq_true rfl) rfl ⟨⟨_, rfl⟩, rfl, ⟨-1, 0, (h_14, d_14), by show d_14 ≤ 8; omega, rfl⟩⟩ dX8_does_155
            · skip
              refine lv_iload hx hb dX8_does_115 (lv_at hl 0 rfl) ?_
              refine lv_bipush (v := 12) hx hb dX8_does_117 (by decide) ?_
              refine lv_icmp_ne (tgt := 132) hx hb dX8_does_119 (by decide) (fun c_15 => ?_) (fun c_15 => ?_)
              · skip
                refine lv_aload_n hx hb dX8_does_132 rfl (lv_at hl 2 rfl) ?_
                refine lv_aload_n hx hb dX8_does_133 rfl (lv_at hl 4 rfl) ?_
                refine lv_lload hx hb dX8_does_134 (lv_at hl 1 rfl) ?_
                refine m_calli (m_runV (i := nm 0 7) (ci := 6) (As := [.ref (L (nm (cm + 2) 0)), .long v]) (rest := []) X (k_X8_finishes Γ l L (tS (tS x 0 7 1 (-1)) 0 7 2 0) h d cm v (by omega) hI hm) v_X8_finishes ml_X8_50 hw hS rfl rfl rfl rfl hl.1 ⟨Nat.le_of_ble_eq_true rfl, Nat.le_of_ble_eq_true rfl⟩ (Nat.le_of_ble_eq_true rfl) ⟨Nat.le_of_ble_eq_true rfl, Nat.le_of_ble_eq_true rfl⟩ dX8_does_136) hS (fun r_16 L1 M1 H locs hp_16 hw hS => ?_)
                obtain ⟨⟨t_16, rfl⟩, ⟨h_16, d_16⟩, hd_16, e1, e2⟩ := hp_16
                have hd_16 : d_16 ≤ 8 := hd_16
                rw [e1, e2] at hw; clear e1 e2
                exact m_zret (b := t_16) X hr hlk hw hS (Nat.le_of_ble_eq_true rfl) (Nat.le_of_ble_eq_true rfl) rfl ⟨⟨_, rfl⟩, rfl, ⟨-1, 0, (h_16, d_16), by show d_16 ≤ 8; omega, rfl⟩⟩ dX8_does_139
              · skip
                refine lv_aload_n hx hb dX8_does_122 rfl (lv_at hl 2 rfl) ?_
                refine lv_iload_n hx hb dX8_does_123 rfl (lv_at hl 5 rfl) ?_
                refine lv_lload hx hb dX8_does_124 (lv_at hl 1 rfl) ?_
                refine m_calli (m_runV (i := nm 0 7) (ci := 6) (As := [.int k, .long v]) (rest := []) X (k_X8_begins Γ l L (tS (tS x 0 7 1 (-1)) 0 7 2 0) h d k v (by omega)) v_X8_begins ml_X8_47 hw hS rfl rfl rfl rfl hl.1 ⟨Nat.le_of_ble_eq_true rfl, Nat.le_of_ble_eq_true rfl⟩ (Nat.le_of_ble_eq_true rfl) ⟨Nat.le_of_ble_eq_true rfl, Nat.le_of_ble_eq_true rfl⟩ dX8_does_126) hS (fun r_17 L1 M1 H locs hp_17 hw hS => ?_)
                obtain ⟨⟨t_17, rfl⟩, ⟨h_17, d_17⟩, hd_17, e1, e2⟩ := hp_17
                have hd_17 : d_17 ≤ 8 := hd_17
                rw [e1, e2] at hw; clear e1 e2
                refine lv_goto (tgt := 139) hx hb dX8_does_129 (by decide) ?_
                exact m_zret (b := t_17) X hr hlk hw hS (Nat.le_of_ble_eq_true rfl) (Nat.le_of_ble_eq_true rfl) rfl ⟨⟨_, rfl⟩, rfl, ⟨-1, 0, (h_17, d_17), by show d_17 ≤ 8; omega, rfl⟩⟩ dX8_does_139
          · skip
            refine lv_aload_n hx hb dX8_does_99 rfl (lv_at hl 2 rfl) ?_
            refine lv_iload hx hb dX8_does_100 (lv_at hl 0 rfl) ?_
            refine lv_lload hx hb dX8_does_102 (lv_at hl 1 rfl) ?_
            refine m_calli (m_runV (i := nm 0 7) (ci := 6) (As := [.int o, .long v]) (rest := []) X (k_X8_reckons Γ l L (tS (tS x 0 7 1 (-1)) 0 7 2 0) h d o v (by omega)) v_X8_reckons ml_X8_44 hw hS rfl rfl rfl rfl hl.1 ⟨Nat.le_of_ble_eq_true rfl, Nat.le_of_ble_eq_true rfl⟩ (Nat.le_of_ble_eq_true rfl) ⟨Nat.le_of_ble_eq_true rfl, Nat.le_of_ble_eq_true rfl⟩ dX8_does_104) hS (fun r_18 L1 M1 H locs hp_18 hw hS => ?_)
            obtain ⟨⟨t_18, rfl⟩, ⟨h_18, d_18⟩, hd_18, e1, e2⟩ := hp_18
            have hd_18 : d_18 ≤ 8 := hd_18
            rw [e1, e2] at hw; clear e1 e2
            exact m_zret (b := t_18) X hr hlk hw hS (Nat.le_of_ble_eq_true rfl) (Nat.le_of_ble_eq_true rfl) rfl ⟨⟨_, rfl⟩, rfl, ⟨-1, 0, (h_18, d_18), by show d_18 ≤ 8; omega, rfl⟩⟩ dX8_does_107
        · skip
          refine lv_aload_n hx hb dX8_does_83 rfl (lv_at hl 2 rfl) ?_
          refine lv_iload hx hb dX8_does_84 (lv_at hl 0 rfl) ?_
          refine lv_lload hx hb dX8_does_86 (lv_at hl 1 rfl) ?_
          refine m_calli (m_runV (i := nm 0 7) (ci := 6) (As := [.int o, .long v]) (rest := []) X (k_X8_moves Γ l L (tS (tS x 0 7 1 (-1)) 0 7 2 0) h d o v (by omega)) v_X8_moves ml_X8_40 hw hS rfl rfl rfl rfl hl.1 ⟨Nat.le_of_ble_eq_true rfl, Nat.le_of_ble_eq_true rfl⟩ (Nat.le_of_ble_eq_true rfl) ⟨Nat.le_of_ble_eq_true rfl, Nat.le_of_ble_eq_true rfl⟩ dX8_does_88) hS (fun r_19 L1 M1 H locs hp_19 hw hS => ?_)
          obtain ⟨⟨t_19, rfl⟩, ⟨h_19, d_19⟩, hd_19, e1, e2⟩ := hp_19
          have hd_19 : d_19 ≤ 8 := hd_19
          rw [e1, e2] at hw; clear e1 e2
          exact m_zret (b := t_19) X hr hlk hw hS (Nat.le_of_ble_eq_true rfl) (Nat.le_of_ble_eq_true rfl) rfl ⟨⟨_, rfl⟩, rfl, ⟨-1, 0, (h_19, d_19), by show d_19 ≤ 8; omega, rfl⟩⟩ dX8_does_91
      · skip
        refine lv_iconst (v := 0) hx hb dX8_does_74 (by decide) ?_
        exact m_zret (b := false) X hr hlk hw hS (Nat.le_of_ble_eq_true rfl) (Nat.le_of_ble_eq_true rfl) rfl ⟨⟨_, rfl⟩, rfl, ⟨-1, 0, (h, d), by show d ≤ 8; omega, rfl⟩⟩ dX8_does_75
  have K62_1 : ∀ (o : Int32) (v : Int64) (H : Heap) (locs : List Loc) (ls : Array Slot), mW Γ.1 vwCl A L (cM Γ L (sP (tS (tS x 0 7 1 (-1)) 0 7 2 1) 0 8 (h, d))) H → va_S A s.heap H locs → lv_has ls 7 [(4, .int o), (5, .long v), (0, .ref (L (nm 0 7))), (1, .ref (L (nm 0 1))), (2, .ref (L (nm (cm + 2) 0))), (3, .int k)] → W p l e { frames := 4, cells := 0, slots := 0, locals := 90 } s m args below meth c H locs 0 0 (MQ below (mQi Γ (fun r L1 M1 => (∃ t : Bool, r = bI t) ∧ L1 = L ∧ ∃ (v w : Int32) (q : PL), q.2 ≤ 8 ∧ M1 = cM Γ L (sP (tS (tS x 0 7 1 v) 0 7 2 w) 0 8 q)) A) args s 0 0 A) (F0 m 62 ls []) := by
    intro o v H locs ls hw hS hl
    have hI := (hI.free (b := 7) (k := 1) (v := -1) (by decide)).free (b := 7) (k := 2) (v := 1) (by decide)
    refine lv_iload hx hb dX8_does_62 (lv_at hl 0 rfl) ?_
    refine lv_if_lt (tgt := 74) hx hb dX8_does_64 (by decide) (fun c_20 => ?_) (fun c_20 => ?_)
    · skip
      refine lv_iconst (v := 0) hx hb dX8_does_74 (by decide) ?_
      exact m_zret (b := false) X hr hlk hw hS (Nat.le_of_ble_eq_true rfl) (Nat.le_of_ble_eq_true rfl) rfl ⟨⟨_, rfl⟩, rfl, ⟨-1, 1, (h, d), by show d ≤ 8; omega, rfl⟩⟩ dX8_does_75
    · skip
      refine lv_iload hx hb dX8_does_67 (lv_at hl 0 rfl) ?_
      refine lv_bipush (v := 34) hx hb dX8_does_69 (by decide) ?_
      refine lv_icmp_le (tgt := 76) hx hb dX8_does_71 (by decide) (fun c_21 => ?_) (fun c_21 => ?_)
      · skip
        refine lv_iload hx hb dX8_does_76 (lv_at hl 0 rfl) ?_
        refine lv_bipush (v := 6) hx hb dX8_does_78 (by decide) ?_
        refine lv_icmp_gt (tgt := 92) hx hb dX8_does_80 (by decide) (fun c_22 => ?_) (fun c_22 => ?_)
        · skip
          refine lv_iload hx hb dX8_does_92 (lv_at hl 0 rfl) ?_
          refine lv_bipush (v := 11) hx hb dX8_does_94 (by decide) ?_
          refine lv_icmp_gt (tgt := 108) hx hb dX8_does_96 (by decide) (fun c_23 => ?_) (fun c_23 => ?_)
          · skip
            refine lv_iload hx hb dX8_does_108 (lv_at hl 0 rfl) ?_
            refine lv_bipush (v := 13) hx hb dX8_does_110 (by decide) ?_
            refine lv_icmp_gt (tgt := 140) hx hb dX8_does_112 (by decide) (fun c_24 => ?_) (fun c_24 => ?_)
            · skip
              refine lv_iload hx hb dX8_does_140 (lv_at hl 0 rfl) ?_
              refine lv_bipush (v := 20) hx hb dX8_does_142 (by decide) ?_
              refine lv_icmp_gt (tgt := 156) hx hb dX8_does_144 (by decide) (fun c_25 => ?_) (fun c_25 => ?_)
              · skip
                refine lv_iload hx hb dX8_does_156 (lv_at hl 0 rfl) ?_
                refine lv_bipush (v := 25) hx hb dX8_does_158 (by decide) ?_
                refine lv_icmp_gt (tgt := 172) hx hb dX8_does_160 (by decide) (fun c_26 => ?_) (fun c_26 => ?_)
                · skip
                  refine lv_iload hx hb dX8_does_172 (lv_at hl 0 rfl) ?_
                  refine lv_bipush (v := 28) hx hb dX8_does_174 (by decide) ?_
                  refine lv_icmp_gt (tgt := 186) hx hb dX8_does_176 (by decide) (fun c_27 => ?_) (fun c_27 => ?_)
                  · skip
                    refine lv_iload hx hb dX8_does_186 (lv_at hl 0 rfl) ?_
                    refine lv_bipush (v := 33) hx hb dX8_does_188 (by decide) ?_
                    refine lv_icmp_ne (tgt := 204) hx hb dX8_does_190 (by decide) (fun c_28 => ?_) (fun c_28 => ?_)
                    · skip
                      refine lv_aload_n hx hb dX8_does_204 rfl (lv_at hl 2 rfl) ?_
                      refine lv_aload_n hx hb dX8_does_205 rfl (lv_at hl 4 rfl) ?_
                      refine lv_iload hx hb dX8_does_206 (lv_at hl 0 rfl) ?_
                      refine lv_lload hx hb dX8_does_208 (lv_at hl 1 rfl) ?_
                      refine m_calli (m_runV (i := nm 0 7) (ci := 6) (As := [.ref (L (nm (cm + 2) 0)), .int o, .long v]) (rest := []) X (k_X8_goesElsewhere Γ l L (tS (tS x 0 7 1 (-1)) 0 7 2 1) h d cm o v (by omega) hI hm) v_X8_goesElsewhere ml_X8_68 hw hS rfl rfl rfl rfl hl.1 ⟨Nat.le_of_ble_eq_true rfl, Nat.le_of_ble_eq_true rfl⟩ (Nat.le_of_ble_eq_true rfl) ⟨Nat.le_of_ble_eq_true rfl, Nat.le_of_ble_eq_true rfl⟩ dX8_does_210) hS (fun r_29 L1 M1 H locs hp_29 hw hS => ?_)
                      obtain ⟨⟨t_29, rfl⟩, e1, v_29, ⟨h_29, d_29⟩, hd_29, e2⟩ := hp_29
                      have hd_29 : d_29 ≤ 8 := hd_29
                      rw [e1, e2] at hw; clear e1 e2
                      exact m_zret (b := t_29) X hr hlk hw hS (Nat.le_of_ble_eq_true rfl) (Nat.le_of_ble_eq_true rfl) rfl ⟨⟨_, rfl⟩, rfl, ⟨v_29, 1, (h_29, d_29), by show d_29 ≤ 8; omega, by rw [tS_sw]⟩⟩ dX8_does_213
                    · skip
                      refine lv_aload_n hx hb dX8_does_193 rfl (lv_at hl 2 rfl) ?_
                      refine lv_aload_n hx hb dX8_does_194 rfl (lv_at hl 3 rfl) ?_
                      refine lv_aload_n hx hb dX8_does_195 rfl (lv_at hl 4 rfl) ?_
                      refine lv_lload hx hb dX8_does_196 (lv_at hl 1 rfl) ?_
                      refine m_calli (m_runV (i := nm 0 7) (ci := 6) (As := [.ref (L (nm 0 1)), .ref (L (nm (cm + 2) 0)), .long v]) (rest := []) X (k_X8_calls Γ l L (tS (tS x 0 7 1 (-1)) 0 7 2 1) h d cm v (by omega) hI hm) v_X8_calls ml_X8_64 hw hS rfl rfl rfl rfl hl.1 ⟨Nat.le_of_ble_eq_true rfl, Nat.le_of_ble_eq_true rfl⟩ (Nat.le_of_ble_eq_true rfl) ⟨Nat.le_of_ble_eq_true rfl, Nat.le_of_ble_eq_true rfl⟩ dX8_does_198) hS (fun r_30 L1 M1 H locs hp_30 hw hS => ?_)
                      obtain ⟨⟨t_30, rfl⟩, ⟨h_30, d_30⟩, hd_30, e1, e2⟩ := hp_30
                      have hd_30 : d_30 ≤ 8 := hd_30
                      rw [e1, e2] at hw; clear e1 e2
                      refine lv_goto (tgt := 213) hx hb dX8_does_201 (by decide) ?_
                      exact m_zret (b := t_30) X hr hlk hw hS (Nat.le_of_ble_eq_true rfl) (Nat.le_of_ble_eq_true rfl) rfl ⟨⟨_, rfl⟩, rfl, ⟨-1, 1, (h_30, d_30), by show d_30 ≤ 8; omega, rfl⟩⟩ dX8_does_213
                  · skip
                    refine lv_aload_n hx hb dX8_does_179 rfl (lv_at hl 2 rfl) ?_
                    refine lv_iload hx hb dX8_does_180 (lv_at hl 0 rfl) ?_
                    refine m_calli (m_runV (i := nm 0 7) (ci := 6) (As := [.int o]) (rest := []) X (k_X8_turns Γ l L (tS (tS x 0 7 1 (-1)) 0 7 2 1) h d o (by omega)) v_X8_turns ml_X8_60 hw hS rfl rfl rfl rfl hl.1 ⟨Nat.le_of_ble_eq_true rfl, Nat.le_of_ble_eq_true rfl⟩ (Nat.le_of_ble_eq_true rfl) ⟨Nat.le_of_ble_eq_true rfl, Nat.le_of_ble_eq_true rfl⟩ dX8_does_182) hS (fun r_31 L1 M1 H locs hp_31 hw hS => ?_)
                    obtain ⟨⟨t_31, rfl⟩, ⟨h_31, d_31⟩, hd_31, e1, e2⟩ := hp_31
                    have hd_31 : d_31 ≤ 8 := hd_31
                    rw [e1, e2] at hw; clear e1 e2
                    exact m_zret (b := t_31) X hr hlk hw hS (Nat.le_of_ble_eq_true rfl) (Nat.le_of_ble_eq_true rfl) rfl ⟨⟨_, rfl⟩, rfl, ⟨-1, 1, (h_31, d_31), by show d_31 ≤ 8; omega, rfl⟩⟩ dX8_does_185
                · skip
                  refine lv_aload_n hx hb dX8_does_163 rfl (lv_at hl 2 rfl) ?_
                  refine lv_iload hx hb dX8_does_164 (lv_at hl 0 rfl) ?_
                  refine lv_lload hx hb dX8_does_166 (lv_at hl 1 rfl) ?_
                  refine m_calli (m_runV (i := nm 0 7) (ci := 6) (As := [.int o, .long v]) (rest := []) X (k_X8_usesObject Γ l L (tS (tS x 0 7 1 (-1)) 0 7 2 1) h d o v (by omega)) v_X8_usesObject ml_X8_57 hw hS rfl rfl rfl rfl hl.1 ⟨Nat.le_of_ble_eq_true rfl, Nat.le_of_ble_eq_true rfl⟩ (Nat.le_of_ble_eq_true rfl) ⟨Nat.le_of_ble_eq_true rfl, Nat.le_of_ble_eq_true rfl⟩ dX8_does_168) hS (fun r_32 L1 M1 H locs hp_32 hw hS => ?_)
                  obtain ⟨⟨t_32, rfl⟩, ⟨h_32, d_32⟩, hd_32, e1, e2⟩ := hp_32
                  have hd_32 : d_32 ≤ 8 := hd_32
                  rw [e1, e2] at hw; clear e1 e2
                  exact m_zret (b := t_32) X hr hlk hw hS (Nat.le_of_ble_eq_true rfl) (Nat.le_of_ble_eq_true rfl) rfl ⟨⟨_, rfl⟩, rfl, ⟨-1, 1, (h_32, d_32), by show d_32 ≤ 8; omega, rfl⟩⟩ dX8_does_171
              · skip
                refine lv_aload_n hx hb dX8_does_147 rfl (lv_at hl 2 rfl) ?_
                refine lv_iload hx hb dX8_does_148 (lv_at hl 0 rfl) ?_
                refine lv_lload hx hb dX8_does_150 (lv_at hl 1 rfl) ?_
                refine m_calli (m_runV (i := nm 0 7) (ci := 6) (As := [.int o, .long v]) (rest := []) X (k_X8_usesArray Γ l L (tS (tS x 0 7 1 (-1)) 0 7 2 1) h d o v (by omega)) v_X8_usesArray ml_X8_54 hw hS rfl rfl rfl rfl hl.1 ⟨Nat.le_of_ble_eq_true rfl, Nat.le_of_ble_eq_true rfl⟩ (Nat.le_of_ble_eq_true rfl) ⟨Nat.le_of_ble_eq_true rfl, Nat.le_of_ble_eq_true rfl⟩ dX8_does_152) hS (fun r_33 L1 M1 H locs hp_33 hw hS => ?_)
                obtain ⟨⟨t_33, rfl⟩, ⟨h_33, d_33⟩, hd_33, e1, e2⟩ := hp_33
                have hd_33 : d_33 ≤ 8 := hd_33
                rw [e1, e2] at hw; clear e1 e2
                exact m_zret (b := t_33) X hr hlk hw hS (Nat.le_of_ble_eq_true rfl) (Nat.le_of_ble_eq_true rfl) rfl ⟨⟨_, rfl⟩, rfl, ⟨-1, 1, (h_33, d_33), by show d_33 ≤ 8; omega, rfl⟩⟩ dX8_does_155
            · skip
              refine lv_iload hx hb dX8_does_115 (lv_at hl 0 rfl) ?_
              refine lv_bipush (v := 12) hx hb dX8_does_117 (by decide) ?_
              refine lv_icmp_ne (tgt := 132) hx hb dX8_does_119 (by decide) (fun c_34 => ?_) (fun c_34 => ?_)
              · skip
                refine lv_aload_n hx hb dX8_does_132 rfl (lv_at hl 2 rfl) ?_
                refine lv_aload_n hx hb dX8_does_133 rfl (lv_at hl 4 rfl) ?_
                refine lv_lload hx hb dX8_does_134 (lv_at hl 1 rfl) ?_
                refine m_calli (m_runV (i := nm 0 7) (ci := 6) (As := [.ref (L (nm (cm + 2) 0)), .long v]) (rest := []) X (k_X8_finishes Γ l L (tS (tS x 0 7 1 (-1)) 0 7 2 1) h d cm v (by omega) hI hm) v_X8_finishes ml_X8_50 hw hS rfl rfl rfl rfl hl.1 ⟨Nat.le_of_ble_eq_true rfl, Nat.le_of_ble_eq_true rfl⟩ (Nat.le_of_ble_eq_true rfl) ⟨Nat.le_of_ble_eq_true rfl, Nat.le_of_ble_eq_true rfl⟩ dX8_does_136) hS (fun r_35 L1 M1 H locs hp_35 hw hS => ?_)
                obtain ⟨⟨t_35, rfl⟩, ⟨h_35, d_35⟩, hd_35, e1, e2⟩ := hp_35
                have hd_35 : d_35 ≤ 8 := hd_35
                rw [e1, e2] at hw; clear e1 e2
                exact m_zret (b := t_35) X hr hlk hw hS (Nat.le_of_ble_eq_true rfl) (Nat.le_of_ble_eq_true rfl) rfl ⟨⟨_, rfl⟩, rfl, ⟨-1, 1, (h_35, d_35), by show d_35 ≤ 8; omega, rfl⟩⟩ dX8_does_139
              · skip
                refine lv_aload_n hx hb dX8_does_122 rfl (lv_at hl 2 rfl) ?_
                refine lv_iload_n hx hb dX8_does_123 rfl (lv_at hl 5 rfl) ?_
                refine lv_lload hx hb dX8_does_124 (lv_at hl 1 rfl) ?_
                refine m_calli (m_runV (i := nm 0 7) (ci := 6) (As := [.int k, .long v]) (rest := []) X (k_X8_begins Γ l L (tS (tS x 0 7 1 (-1)) 0 7 2 1) h d k v (by omega)) v_X8_begins ml_X8_47 hw hS rfl rfl rfl rfl hl.1 ⟨Nat.le_of_ble_eq_true rfl, Nat.le_of_ble_eq_true rfl⟩ (Nat.le_of_ble_eq_true rfl) ⟨Nat.le_of_ble_eq_true rfl, Nat.le_of_ble_eq_true rfl⟩ dX8_does_126) hS (fun r_36 L1 M1 H locs hp_36 hw hS => ?_)
                obtain ⟨⟨t_36, rfl⟩, ⟨h_36, d_36⟩, hd_36, e1, e2⟩ := hp_36
                have hd_36 : d_36 ≤ 8 := hd_36
                rw [e1, e2] at hw; clear e1 e2
                refine lv_goto (tgt := 139) hx hb dX8_does_129 (by decide) ?_
                exact m_zret (b := t_36) X hr hlk hw hS (Nat.le_of_ble_eq_true rfl) (Nat.le_of_ble_eq_true rfl) rfl ⟨⟨_, rfl⟩, rfl, ⟨-1, 1, (h_36, d_36), by show d_36 ≤ 8; omega, rfl⟩⟩ dX8_does_139
          · skip
            refine lv_aload_n hx hb dX8_does_99 rfl (lv_at hl 2 rfl) ?_
            refine lv_iload hx hb dX8_does_100 (lv_at hl 0 rfl) ?_
            refine lv_lload hx hb dX8_does_102 (lv_at hl 1 rfl) ?_
            refine m_calli (m_runV (i := nm 0 7) (ci := 6) (As := [.int o, .long v]) (rest := []) X (k_X8_reckons Γ l L (tS (tS x 0 7 1 (-1)) 0 7 2 1) h d o v (by omega)) v_X8_reckons ml_X8_44 hw hS rfl rfl rfl rfl hl.1 ⟨Nat.le_of_ble_eq_true rfl, Nat.le_of_ble_eq_true rfl⟩ (Nat.le_of_ble_eq_true rfl) ⟨Nat.le_of_ble_eq_true rfl, Nat.le_of_ble_eq_true rfl⟩ dX8_does_104) hS (fun r_37 L1 M1 H locs hp_37 hw hS => ?_)
            obtain ⟨⟨t_37, rfl⟩, ⟨h_37, d_37⟩, hd_37, e1, e2⟩ := hp_37
            have hd_37 : d_37 ≤ 8 := hd_37
            rw [e1, e2] at hw; clear e1 e2
            exact m_zret (b := t_37) X hr hlk hw hS (Nat.le_of_ble_eq_true rfl) (Nat.le_of_ble_eq_true rfl) rfl ⟨⟨_, rfl⟩, rfl, ⟨-1, 1, (h_37, d_37), by show d_37 ≤ 8; omega, rfl⟩⟩ dX8_does_107
        · skip
          refine lv_aload_n hx hb dX8_does_83 rfl (lv_at hl 2 rfl) ?_
          refine lv_iload hx hb dX8_does_84 (lv_at hl 0 rfl) ?_
          refine lv_lload hx hb dX8_does_86 (lv_at hl 1 rfl) ?_
          refine m_calli (m_runV (i := nm 0 7) (ci := 6) (As := [.int o, .long v]) (rest := []) X (k_X8_moves Γ l L (tS (tS x 0 7 1 (-1)) 0 7 2 1) h d o v (by omega)) v_X8_moves ml_X8_40 hw hS rfl rfl rfl rfl hl.1 ⟨Nat.le_of_ble_eq_true rfl, Nat.le_of_ble_eq_true rfl⟩ (Nat.le_of_ble_eq_true rfl) ⟨Nat.le_of_ble_eq_true rfl, Nat.le_of_ble_eq_true rfl⟩ dX8_does_88) hS (fun r_38 L1 M1 H locs hp_38 hw hS => ?_)
          obtain ⟨⟨t_38, rfl⟩, ⟨h_38, d_38⟩, hd_38, e1, e2⟩ := hp_38
          have hd_38 : d_38 ≤ 8 := hd_38
          rw [e1, e2] at hw; clear e1 e2
          exact m_zret (b := t_38) X hr hlk hw hS (Nat.le_of_ble_eq_true rfl) (Nat.le_of_ble_eq_true rfl) rfl ⟨⟨_, rfl⟩, rfl, ⟨-1, 1, (h_38, d_38), by show d_38 ≤ 8; omega, rfl⟩⟩ dX8_does_91
      · skip
        refine lv_iconst (v := 0) hx hb dX8_does_74 (by decide) ?_
        exact m_zret (b := false) X hr hlk hw hS (Nat.le_of_ble_eq_true rfl) (Nat.le_of_ble_eq_true rfl) rfl ⟨⟨_, rfl⟩, rfl, ⟨-1, 1, (h, d), by show d ≤ 8; omega, rfl⟩⟩ dX8_does_75
  refine lv_aload_n hx hb dX8_does_0 rfl (lv_at hl 2 rfl) ?_
  refine lv_iload_n hx hb dX8_does_1 rfl (lv_at hl 3 rfl) ?_
  refine lv_i2l (v := k.toInt64) hx hb dX8_does_2 rfl ?_
  refine m_calli (m_runV (i := nm (cm + 2) 0) (ci := 0) (As := [.long k.toInt64]) (rest := []) X (k_X0_hasInstruction Γ l L (sP x 0 8 (h, d)) cm k.toInt64 hm) v_X0_hasInstruction ml_X8_16 hw hS (c_cell hm 0 _ _ _) rfl rfl rfl hl.1 ⟨Nat.le_of_ble_eq_true rfl, Nat.le_of_ble_eq_true rfl⟩ (Nat.le_of_ble_eq_true rfl) ⟨Nat.le_of_ble_eq_true rfl, Nat.le_of_ble_eq_true rfl⟩ dX8_does_3) hS (fun r_39 L1 M1 H locs hp_39 hw hS => ?_)
  obtain ⟨rfl, e1, e2⟩ := hp_39
  rw [e1, e2] at hw; clear e1 e2
  refine lv_if_ne (tgt := 11) hx hb dX8_does_6 (by decide) (fun c_40 => ?_) (fun c_40 => ?_)
  · skip
    have c_40 := bI_t c_40
    obtain ⟨kn, hkn, ek⟩ := hasI_nat (CInv.putP (a := 0) (b := 8) (q := (h, d)) hI pO8 (by show d ≤ 8; omega)) hm c_40
    refine lv_aload_n hx hb dX8_does_11 rfl (lv_at hl 2 rfl) ?_
    refine s_get (a := cm + 2) (b := 0) (ci := 0) X hw (c_cell hm 0 _ _ _) rfl gX0 2 (by decide) fl_X8_22 rfl rfl dX8_does_12 ?_
    refine lv_iload_n hx hb dX8_does_15 rfl (lv_at hl 3 rfl) ?_
    refine s_iald (n := 40) (k := kn) X hw (c_cell hm 1 _ _ _) ek (by omega) (by decide) dX8_does_16 ?_
    refine lv_istore (lv' := [(4, .int ((sP x 0 8 (h, d)).2.1 (cm + 2) 1 kn)), (0, .ref (L (nm 0 7))), (1, .ref (L (nm 0 1))), (2, .ref (L (nm (cm + 2) 0))), (3, .int k)]) hx hb dX8_does_17 hl (by decide) rfl (fun ls hl => ?_)
    refine lv_aload_n hx hb dX8_does_19 rfl (lv_at hl 3 rfl) ?_
    refine s_get (a := cm + 2) (b := 0) (ci := 0) X hw (c_cell hm 0 _ _ _) rfl gX0 3 (by decide) fl_X8_26 rfl rfl dX8_does_20 ?_
    refine lv_iload_n hx hb dX8_does_23 rfl (lv_at hl 4 rfl) ?_
    refine s_lald (n := 40) (k := kn) X hw (c_cell hm 2 _ _ _) ek (by omega) (by decide) dX8_does_24 ?_
    refine lv_lstore (lv' := [(5, .long ((sP x 0 8 (h, d)).2.2.1 (cm + 2) 2 kn)), (4, .int ((sP x 0 8 (h, d)).2.1 (cm + 2) 1 kn)), (0, .ref (L (nm 0 7))), (1, .ref (L (nm 0 1))), (2, .ref (L (nm (cm + 2) 0))), (3, .int k)]) hx hb dX8_does_25 hl (by decide) rfl (fun ls hl => ?_)
    refine lv_aload_n hx hb dX8_does_27 rfl (lv_at hl 2 rfl) ?_
    refine lv_iconst (v := (-1)) hx hb dX8_does_28 (by decide) ?_
    refine s_put (a := 0) (b := 7) (v := (-1)) (ci := 6) (ty := tyX8 1) X hw hS 1 rfl rfl rfl gX8 tyX8 tyX8_ok nmX8 (by decide) fl_X8_30 rfl rfl (tyX8_ok 1 (by decide)) rfl rfl (show 1 < 3 by decide) dX8_does_29 (fun H locs hw hS => ?_)
    rw [sP_tSo (by first | decide | omega)] at hw
    have hI := hI.free (b := 7) (k := 1) (v := (-1)) (by decide)
    refine lv_aload_n hx hb dX8_does_32 rfl (lv_at hl 2 rfl) ?_
    refine lv_iload hx hb dX8_does_33 (lv_at hl 1 rfl) ?_
    refine lv_bipush (v := 29) hx hb dX8_does_35 (by decide) ?_
    refine lv_icmp_eq (tgt := 58) hx hb dX8_does_37 (by decide) (fun c_41 => ?_) (fun c_41 => ?_)
    · skip
      refine lv_iconst (v := 0) hx hb dX8_does_58 (by decide) ?_
      refine s_put (a := 0) (b := 7) (v := 0) (ci := 6) (ty := tyX8 2) X hw hS 2 rfl rfl rfl gX8 tyX8 tyX8_ok nmX8 (by decide) fl_X8_36 rfl rfl (tyX8_ok 2 (by decide)) rfl rfl (show 2 < 3 by decide) dX8_does_59 (fun H locs hw hS => ?_)
      rw [sP_tSo (by first | decide | omega)] at hw
      have hI := hI.free (b := 7) (k := 2) (v := 0) (by decide)
      exact K62_0 _ _ _ _ ls hw hS (lv_sub hl [1, 0, 2, 3, 4, 5] rfl)
    · skip
      refine lv_iload hx hb dX8_does_40 (lv_at hl 1 rfl) ?_
      refine lv_bipush (v := 32) hx hb dX8_does_42 (by decide) ?_
      refine lv_icmp_eq (tgt := 58) hx hb dX8_does_44 (by decide) (fun c_42 => ?_) (fun c_42 => ?_)
      · skip
        refine lv_iconst (v := 0) hx hb dX8_does_58 (by decide) ?_
        refine s_put (a := 0) (b := 7) (v := 0) (ci := 6) (ty := tyX8 2) X hw hS 2 rfl rfl rfl gX8 tyX8 tyX8_ok nmX8 (by decide) fl_X8_36 rfl rfl (tyX8_ok 2 (by decide)) rfl rfl (show 2 < 3 by decide) dX8_does_59 (fun H locs hw hS => ?_)
        rw [sP_tSo (by first | decide | omega)] at hw
        have hI := hI.free (b := 7) (k := 2) (v := 0) (by decide)
        exact K62_0 _ _ _ _ ls hw hS (lv_sub hl [1, 0, 2, 3, 4, 5] rfl)
      · skip
        refine lv_iload hx hb dX8_does_47 (lv_at hl 1 rfl) ?_
        refine lv_bipush (v := 34) hx hb dX8_does_49 (by decide) ?_
        refine lv_icmp_eq (tgt := 58) hx hb dX8_does_51 (by decide) (fun c_43 => ?_) (fun c_43 => ?_)
        · skip
          refine lv_iconst (v := 0) hx hb dX8_does_58 (by decide) ?_
          refine s_put (a := 0) (b := 7) (v := 0) (ci := 6) (ty := tyX8 2) X hw hS 2 rfl rfl rfl gX8 tyX8 tyX8_ok nmX8 (by decide) fl_X8_36 rfl rfl (tyX8_ok 2 (by decide)) rfl rfl (show 2 < 3 by decide) dX8_does_59 (fun H locs hw hS => ?_)
          rw [sP_tSo (by first | decide | omega)] at hw
          have hI := hI.free (b := 7) (k := 2) (v := 0) (by decide)
          exact K62_0 _ _ _ _ ls hw hS (lv_sub hl [1, 0, 2, 3, 4, 5] rfl)
        · skip
          refine lv_iconst (v := 1) hx hb dX8_does_54 (by decide) ?_
          refine lv_goto (tgt := 59) hx hb dX8_does_55 (by decide) ?_
          refine s_put (a := 0) (b := 7) (v := 1) (ci := 6) (ty := tyX8 2) X hw hS 2 rfl rfl rfl gX8 tyX8 tyX8_ok nmX8 (by decide) fl_X8_36 rfl rfl (tyX8_ok 2 (by decide)) rfl rfl (show 2 < 3 by decide) dX8_does_59 (fun H locs hw hS => ?_)
          rw [sP_tSo (by first | decide | omega)] at hw
          have hI := hI.free (b := 7) (k := 2) (v := 1) (by decide)
          exact K62_1 _ _ _ _ ls hw hS (lv_sub hl [1, 0, 2, 3, 4, 5] rfl)
  · skip
    have c_40 := bI_f c_40
    refine lv_iconst (v := 0) hx hb dX8_does_9 (by decide) ?_
    exact m_zret (b := false) X hr hlk hw hS (Nat.le_of_ble_eq_true rfl) (Nat.le_of_ble_eq_true rfl) rfl ⟨⟨_, rfl⟩, rfl, ⟨x.1 0 7 1, x.1 0 7 2, (h, d), by show d ≤ 8; omega, by rw [tS_id2]⟩⟩ dX8_does_10
