/-! frame, set, kind -/
theorem isIn_nat2 {a u : Int32} {h : Nat} (hu : u = nI h) (hh : h < 2 ^ 31) (c : r_isIn a.toInt64 0 u.toInt64 = true) : ∃ k : Nat, k ≤ h ∧ k < 2 ^ 31 ∧ a = nI k := by
  have h1 := (r_isIn_iff _ _ _).mp c
  rw [i64_toInt, i64_toInt, hu, nI_toInt hh] at h1
  have h0 : (0 : Int) ≤ a.toInt := h1.1
  obtain ⟨e, e2⟩ := nat_of_toInt h0
  exact ⟨a.toInt.toNat, by omega, e2, e⟩
/-- a depth: -1, or at most 8 -/
def r_dp (v : Int32) : Prop := v = -1 ∨ ∃ d : Nat, d ≤ 8 ∧ v = nI d
theorem r_dp_nat {v : Int32} (h : r_dp v) (c : ¬ v < 0) : ∃ d : Nat, d ≤ 8 ∧ v = nI d := by
  rcases h with h | h
  · rw [h] at c; exact absurd (by decide) c
  · exact h
def r_frame (x : RS) (n : Nat) (a b g : Int32) : Int32 × RS := if r_isM n a = true ∧ r_isIn b.toInt64 0 39 = true ∧ r_isIn g.toInt64 (-1) 8 = true then (0, sA (sAs (sA x 7 (40 * a.toNatClampNeg + b.toNatClampNeg) g) 8 (fmA (x.2.1 8) (16 * (40 * a.toNatClampNeg + b.toNatClampNeg)) 0 16)) 9 a.toNatClampNeg 0) else (-1, x)
def r_set (x : RS) (n : Nat) (a b g w : Int32) : Int32 × RS := if r_isM n a = true ∧ r_isIn b.toInt64 0 39 = true ∧ ¬ x.2.1 7 (40 * a.toNatClampNeg + b.toNatClampNeg) < 0 ∧ r_isIn g.toInt64 0 (7 + x.2.1 7 (40 * a.toNatClampNeg + b.toNatClampNeg)).toInt64 = true ∧ r_isKind w = true then (x.2.1 8 (16 * (40 * a.toNatClampNeg + b.toNatClampNeg) + g.toNatClampNeg), sA (sA x 8 (16 * (40 * a.toNatClampNeg + b.toNatClampNeg) + g.toNatClampNeg) w) 9 a.toNatClampNeg 0) else (-1, x)
def r_kind (x : RS) (a b : Int32) : Int32 := if r_isIn a.toInt64 0 39 = true ∧ ¬ x.2.1 11 a.toNatClampNeg < 0 ∧ r_isIn b.toInt64 0 (7 + x.2.1 11 a.toNatClampNeg).toInt64 = true then x.2.1 12 (16 * a.toNatClampNeg + b.toNatClampNeg) else -99999999
theorem v_X10_set : mVm yX10_set cX10_set 7 (some .int) 4 := ⟨cd_X10_set, im_X10_set, se_X10_set, ini_X10, by decide, by decide, by decide +kernel⟩
set_option maxHeartbeats 4000000 in
set_option maxRecDepth 100000 in
theorem k_X10_set (Γ : mG) (l : Launch) (L : mI → Nat) (x : RS) (a : Int32) (b : Int32) (g : Int32) (w : Int32) (n : Nat) (hn : x.1 0 = nI n) (h8 : n ≤ 8) (hfd : ∀ i, i < 320 → r_dp (x.2.1 7 i)) : mMet Γ l yX10_set cX10_set 7 (some .int) { frames := 3, cells := 0, slots := 0, locals := 65 } [.ref (L (.inl 0)), .int a, .int b, .int g, .int w] L (rM Γ L x) (mQi Γ (fun r L1 M1 => r = (r_set x n a b g w).1 ∧ L1 = L ∧ M1 = rM Γ L (r_set x n a b g w).2)) := by
  refine m_start (by decide) (Nat.le_of_ble_eq_true rfl) ?_
  intro p e s m args below meth c A ls X hr hlk hnm hw hS hl
  have hx := X.1.1
  have hb := X.1.2.1
  have hl : lv_has ls 7 [(0, .ref (L (.inl 0))), (1, .int a), (2, .int b), (3, .int g), (4, .int w)] := hl
  refine lv_aload_n hx hb dX10_set_0 rfl (lv_at hl 0 rfl) ?_
  refine lv_iload_n hx hb dX10_set_1 rfl (lv_at hl 1 rfl) ?_
  refine m_calli (m_runV (i := .inl 0) (ci := 8) (As := [.int a]) (rest := []) X (k_X10_isMethod Γ l L x a n hn h8) v_X10_isMethod ml_X10_130 hw hS rfl rfl rfl rfl hl.1 ⟨Nat.le_of_ble_eq_true rfl, Nat.le_of_ble_eq_true rfl⟩ (Nat.le_of_ble_eq_true rfl) ⟨Nat.le_of_ble_eq_true rfl, Nat.le_of_ble_eq_true rfl⟩ dX10_set_2) hS (fun r_2 L1 M1 H locs hp_1 hw hS => ?_)
  obtain ⟨rfl, e1, e2⟩ := hp_1
  rw [e1, e2] at hw; clear e1 e2
  refine lv_if_eq (tgt := 66) hx hb dX10_set_5 (by decide) (fun c_3 => ?_) (fun c_3 => ?_)
  · skip
    have c_3 := bI_f c_3
    refine lv_iconst (v := (-1)) hx hb dX10_set_66 (by decide) ?_
    exact m_iret X hr hlk hw hS (Nat.zero_le _) (Nat.zero_le _) ⟨by clear hb hx hl hS hw hnm hlk hr X; first | rfl | (simp_all [bI, r_set]; done) | (simp_all [bI, r_set]; rfl), rfl, by clear hb hx hl hS hw hnm hlk hr X; first | rfl | (simp_all [bI, r_set]; done) | (simp_all [bI, r_set]; rfl)⟩ dX10_set_67
  · skip
    have c_3 := bI_t c_3
    have c_30 := c_3
    obtain ⟨k_4, hk_k_4, rfl⟩ := isM_nat c_30
    have hc_k_4 : (nI k_4).toNatClampNeg = k_4 := nI_clamp (by omega)
    refine lv_iload_n hx hb dX10_set_8 rfl (lv_at hl 2 rfl) ?_
    refine lv_i2l (v := b.toInt64) hx hb dX10_set_9 rfl ?_
    refine lv_lconst (v := 0) hx hb dX10_set_10 (by decide) ?_
    refine lv_ldc2 (v := (39)) hx hb X.1.2.2.2.1 (X.1.2.2.2.2 _ kl_X10_137) dX10_set_11 ?_
    refine m_calli (m_runS (As := [.long b.toInt64, .long 0, .long (39)]) (rest := []) X (k_X10_isIn Γ l L (rM Γ L x) b.toInt64 0 (39)) s_X10_isIn ml_X10_79 hw hS rfl hl.1 ⟨Nat.le_of_ble_eq_true rfl, Nat.le_of_ble_eq_true rfl⟩ (Nat.le_of_ble_eq_true rfl) ⟨Nat.le_of_ble_eq_true rfl, Nat.le_of_ble_eq_true rfl⟩ dX10_set_14) hS (fun r_6 L1 M1 H locs hp_5 hw hS => ?_)
    obtain ⟨rfl, e1, e2⟩ := hp_5
    rw [e1, e2] at hw; clear e1 e2
    refine lv_if_eq (tgt := 66) hx hb dX10_set_17 (by decide) (fun c_7 => ?_) (fun c_7 => ?_)
    · skip
      have c_7 := bI_f c_7
      refine lv_iconst (v := (-1)) hx hb dX10_set_66 (by decide) ?_
      exact m_iret X hr hlk hw hS (Nat.zero_le _) (Nat.zero_le _) ⟨by clear hb hx hl hS hw hnm hlk hr X; first | rfl | (simp_all [bI, r_set]; done) | (simp_all [bI, r_set]; rfl), rfl, by clear hb hx hl hS hw hnm hlk hr X; first | rfl | (simp_all [bI, r_set]; done) | (simp_all [bI, r_set]; rfl)⟩ dX10_set_67
    · skip
      have c_7 := bI_t c_7
      have c_70 := c_7
      obtain ⟨k_8, hk_k_8, hj_k_8, hi_k_8, rfl⟩ := isIn_nat (l := 0) (h := 39) (by decide) (by decide) c_70
      have hc_k_8 : (nI k_8).toNatClampNeg = k_8 := nI_clamp (by omega)
      refine lv_aload_n hx hb dX10_set_20 rfl (lv_at hl 0 rfl) ?_
      refine r_get7 X hw dX10_set_21 ?_
      refine lv_bipush (v := 40) hx hb dX10_set_24 (by decide) ?_
      refine lv_iload_n hx hb dX10_set_26 rfl (lv_at hl 1 rfl) ?_
      refine lv_imul hx hb dX10_set_27 ?_
      refine lv_iload_n hx hb dX10_set_28 rfl (lv_at hl 2 rfl) ?_
      refine lv_iadd hx hb dX10_set_29 ?_
      refine r_ald7N X hw (nadd (a := 40 * k_4) (b := k_8) (nmul (a := 40) (b := k_4) rfl rfl) rfl) (by omega) dX10_set_30 ?_
      refine lv_if_lt (tgt := 66) hx hb dX10_set_31 (by decide) (fun c_9 => ?_) (fun c_9 => ?_)
      · skip
        refine lv_iconst (v := (-1)) hx hb dX10_set_66 (by decide) ?_
        exact m_iret X hr hlk hw hS (Nat.zero_le _) (Nat.zero_le _) ⟨by clear hb hx hl hS hw hnm hlk hr X; first | rfl | (simp_all [bI, r_set]; done) | (simp_all [bI, r_set]; rfl), rfl, by clear hb hx hl hS hw hnm hlk hr X; first | rfl | (simp_all [bI, r_set]; done) | (simp_all [bI, r_set]; rfl)⟩ dX10_set_67
      · skip
        obtain ⟨dd_10, hdd_10b, hdd_10⟩ := r_dp_nat (hfd ((40 * k_4) + k_8) (by omega)) c_9
        refine lv_iload_n hx hb dX10_set_34 rfl (lv_at hl 3 rfl) ?_
        refine lv_i2l (v := g.toInt64) hx hb dX10_set_35 rfl ?_
        refine lv_lconst (v := 0) hx hb dX10_set_36 (by decide) ?_
        refine lv_bipush (v := 7) hx hb dX10_set_37 (by decide) ?_
        refine lv_aload_n hx hb dX10_set_39 rfl (lv_at hl 0 rfl) ?_
        refine r_get7 X hw dX10_set_40 ?_
        refine lv_bipush (v := 40) hx hb dX10_set_43 (by decide) ?_
        refine lv_iload_n hx hb dX10_set_45 rfl (lv_at hl 1 rfl) ?_
        refine lv_imul hx hb dX10_set_46 ?_
        refine lv_iload_n hx hb dX10_set_47 rfl (lv_at hl 2 rfl) ?_
        refine lv_iadd hx hb dX10_set_48 ?_
        refine r_ald7N X hw (nadd (a := 40 * k_4) (b := k_8) (nmul (a := 40) (b := k_4) rfl rfl) rfl) (by omega) dX10_set_49 ?_
        refine lv_iadd hx hb dX10_set_50 ?_
        refine lv_i2l (v := (7 + (x.2.1 7 ((40 * k_4) + k_8))).toInt64) hx hb dX10_set_51 rfl ?_
        refine m_calli (m_runS (As := [.long g.toInt64, .long 0, .long ((7 + (x.2.1 7 ((40 * k_4) + k_8))).toInt64)]) (rest := []) X (k_X10_isIn Γ l L (rM Γ L x) g.toInt64 0 ((7 + (x.2.1 7 ((40 * k_4) + k_8))).toInt64)) s_X10_isIn ml_X10_79 hw hS rfl hl.1 ⟨Nat.le_of_ble_eq_true rfl, Nat.le_of_ble_eq_true rfl⟩ (Nat.le_of_ble_eq_true rfl) ⟨Nat.le_of_ble_eq_true rfl, Nat.le_of_ble_eq_true rfl⟩ dX10_set_52) hS (fun r_12 L1 M1 H locs hp_11 hw hS => ?_)
        obtain ⟨rfl, e1, e2⟩ := hp_11
        rw [e1, e2] at hw; clear e1 e2
        refine lv_if_eq (tgt := 66) hx hb dX10_set_55 (by decide) (fun c_13 => ?_) (fun c_13 => ?_)
        · skip
          have c_13 := bI_f c_13
          refine lv_iconst (v := (-1)) hx hb dX10_set_66 (by decide) ?_
          exact m_iret X hr hlk hw hS (Nat.zero_le _) (Nat.zero_le _) ⟨by clear hb hx hl hS hw hnm hlk hr X; first | rfl | (simp_all [bI, r_set]; done) | (simp_all [bI, r_set]; rfl), rfl, by clear hb hx hl hS hw hnm hlk hr X; first | rfl | (simp_all [bI, r_set]; done) | (simp_all [bI, r_set]; rfl)⟩ dX10_set_67
        · skip
          have c_13 := bI_t c_13
          have c_130 := c_13
          obtain ⟨k_14, hj_k_14, hi_k_14, rfl⟩ := isIn_nat2 (h := 7 + dd_10) (nadd (a := 7) (b := dd_10) rfl hdd_10) (by omega) c_130
          have hc_k_14 : (nI k_14).toNatClampNeg = k_14 := nI_clamp (by omega)
          refine lv_iload hx hb dX10_set_58 (lv_at hl 4 rfl) ?_
          refine m_calli (m_runS (As := [.int w]) (rest := []) X (k_X10_isKind Γ l L (rM Γ L x) w) s_X10_isKind ml_X10_119 hw hS rfl hl.1 ⟨Nat.le_of_ble_eq_true rfl, Nat.le_of_ble_eq_true rfl⟩ (Nat.le_of_ble_eq_true rfl) ⟨Nat.le_of_ble_eq_true rfl, Nat.le_of_ble_eq_true rfl⟩ dX10_set_60) hS (fun r_16 L1 M1 H locs hp_15 hw hS => ?_)
          obtain ⟨rfl, e1, e2⟩ := hp_15
          rw [e1, e2] at hw; clear e1 e2
          refine lv_if_ne (tgt := 68) hx hb dX10_set_63 (by decide) (fun c_17 => ?_) (fun c_17 => ?_)
          · skip
            have c_17 := bI_t c_17
            refine lv_bipush (v := 16) hx hb dX10_set_68 (by decide) ?_
            refine lv_bipush (v := 40) hx hb dX10_set_70 (by decide) ?_
            refine lv_iload_n hx hb dX10_set_72 rfl (lv_at hl 1 rfl) ?_
            refine lv_imul hx hb dX10_set_73 ?_
            refine lv_iload_n hx hb dX10_set_74 rfl (lv_at hl 2 rfl) ?_
            refine lv_iadd hx hb dX10_set_75 ?_
            refine lv_imul hx hb dX10_set_76 ?_
            refine lv_iload_n hx hb dX10_set_77 rfl (lv_at hl 3 rfl) ?_
            refine lv_iadd hx hb dX10_set_78 ?_
            refine lv_istore (lv' := [(5, .int ((16 * ((40 * (nI k_4)) + (nI k_8))) + (nI k_14))), (0, .ref (L (.inl 0))), (1, .int (nI k_4)), (2, .int (nI k_8)), (3, .int (nI k_14)), (4, .int w)]) hx hb dX10_set_79 hl (by decide) rfl (fun ls hl => ?_)
            refine lv_aload_n hx hb dX10_set_81 rfl (lv_at hl 1 rfl) ?_
            refine r_get8 X hw dX10_set_82 ?_
            refine lv_iload hx hb dX10_set_85 (lv_at hl 0 rfl) ?_
            refine r_ald8N X hw (nadd (a := 16 * ((40 * k_4) + k_8)) (b := k_14) (nmul (a := 16) (b := (40 * k_4) + k_8) rfl (nadd (a := 40 * k_4) (b := k_8) (nmul (a := 40) (b := k_4) rfl rfl) rfl)) rfl) (by omega) dX10_set_87 ?_
            refine lv_istore (lv' := [(6, .int (x.2.1 8 ((16 * ((40 * k_4) + k_8)) + k_14))), (5, .int ((16 * ((40 * (nI k_4)) + (nI k_8))) + (nI k_14))), (0, .ref (L (.inl 0))), (1, .int (nI k_4)), (2, .int (nI k_8)), (3, .int (nI k_14)), (4, .int w)]) hx hb dX10_set_88 hl (by decide) rfl (fun ls hl => ?_)
            refine lv_aload_n hx hb dX10_set_90 rfl (lv_at hl 2 rfl) ?_
            refine r_get8 X hw dX10_set_91 ?_
            refine lv_iload hx hb dX10_set_94 (lv_at hl 1 rfl) ?_
            refine lv_iload hx hb dX10_set_96 (lv_at hl 6 rfl) ?_
            refine r_ast8N X hw hS (nadd (a := 16 * ((40 * k_4) + k_8)) (b := k_14) (nmul (a := 16) (b := (40 * k_4) + k_8) rfl (nadd (a := 40 * k_4) (b := k_8) (nmul (a := 40) (b := k_4) rfl rfl) rfl)) rfl) (by omega) dX10_set_98 (fun H locs hw hS => ?_)
            refine lv_aload_n hx hb dX10_set_99 rfl (lv_at hl 2 rfl) ?_
            refine lv_iload_n hx hb dX10_set_100 rfl (lv_at hl 3 rfl) ?_
            refine m_callv (m_runV (i := .inl 0) (ci := 8) (As := [.int (nI k_4)]) (rest := []) X (k_X10_changed Γ l L (sA x 8 ((16 * ((40 * k_4) + k_8)) + k_14) w) (nI k_4) k_4 rfl (by omega)) v_X10_changed ml_X10_133 hw hS rfl rfl rfl rfl hl.1 ⟨Nat.le_of_ble_eq_true rfl, Nat.le_of_ble_eq_true rfl⟩ (Nat.le_of_ble_eq_true rfl) ⟨Nat.le_of_ble_eq_true rfl, Nat.le_of_ble_eq_true rfl⟩ dX10_set_101) hS (fun L1 M1 H locs hp_19 hw hS => ?_)
            obtain ⟨e1, e2⟩ := hp_19
            rw [e1, e2] at hw; clear e1 e2
            refine lv_iload hx hb dX10_set_104 (lv_at hl 0 rfl) ?_
            exact m_iret X hr hlk hw hS (Nat.zero_le _) (Nat.zero_le _) ⟨by clear hb hx hl hS hw hnm hlk hr X; first | rfl | (simp_all [bI, r_set]; done) | (simp_all [bI, r_set]; rfl), rfl, by clear hb hx hl hS hw hnm hlk hr X; first | rfl | (simp_all [bI, r_set]; done) | (simp_all [bI, r_set]; rfl)⟩ dX10_set_106
          · skip
            have c_17 := bI_f c_17
            refine lv_iconst (v := (-1)) hx hb dX10_set_66 (by decide) ?_
            exact m_iret X hr hlk hw hS (Nat.zero_le _) (Nat.zero_le _) ⟨by clear hb hx hl hS hw hnm hlk hr X; first | rfl | (simp_all [bI, r_set]; done) | (simp_all [bI, r_set]; rfl), rfl, by clear hb hx hl hS hw hnm hlk hr X; first | rfl | (simp_all [bI, r_set]; done) | (simp_all [bI, r_set]; rfl)⟩ dX10_set_67
theorem v_X10_kind : mVm yX10_kind cX10_kind 3 (some .int) 2 := ⟨cd_X10_kind, im_X10_kind, se_X10_kind, ini_X10, by decide, by decide, by decide +kernel⟩
set_option maxHeartbeats 4000000 in
set_option maxRecDepth 100000 in
theorem k_X10_kind (Γ : mG) (l : Launch) (L : mI → Nat) (x : RS) (a : Int32) (b : Int32) (hsd : ∀ i, i < 40 → r_dp (x.2.1 11 i)) : mMet Γ l yX10_kind cX10_kind 3 (some .int) { frames := 1, cells := 0, slots := 0, locals := 25 } [.ref (L (.inl 0)), .int a, .int b] L (rM Γ L x) (mQi Γ (fun r L1 M1 => r = r_kind x a b ∧ L1 = L ∧ M1 = rM Γ L x)) := by
  refine m_start (by decide) (Nat.le_of_ble_eq_true rfl) ?_
  intro p e s m args below meth c A ls X hr hlk hnm hw hS hl
  have hx := X.1.1
  have hb := X.1.2.1
  have hl : lv_has ls 3 [(0, .ref (L (.inl 0))), (1, .int a), (2, .int b)] := hl
  refine lv_iload_n hx hb dX10_kind_0 rfl (lv_at hl 1 rfl) ?_
  refine lv_i2l (v := a.toInt64) hx hb dX10_kind_1 rfl ?_
  refine lv_lconst (v := 0) hx hb dX10_kind_2 (by decide) ?_
  refine lv_ldc2 (v := (39)) hx hb X.1.2.2.2.1 (X.1.2.2.2.2 _ kl_X10_137) dX10_kind_3 ?_
  refine m_calli (m_runS (As := [.long a.toInt64, .long 0, .long (39)]) (rest := []) X (k_X10_isIn Γ l L (rM Γ L x) a.toInt64 0 (39)) s_X10_isIn ml_X10_79 hw hS rfl hl.1 ⟨Nat.le_of_ble_eq_true rfl, Nat.le_of_ble_eq_true rfl⟩ (Nat.le_of_ble_eq_true rfl) ⟨Nat.le_of_ble_eq_true rfl, Nat.le_of_ble_eq_true rfl⟩ dX10_kind_6) hS (fun r_2 L1 M1 H locs hp_1 hw hS => ?_)
  obtain ⟨rfl, e1, e2⟩ := hp_1
  rw [e1, e2] at hw; clear e1 e2
  refine lv_if_eq (tgt := 54) hx hb dX10_kind_9 (by decide) (fun c_3 => ?_) (fun c_3 => ?_)
  · skip
    have c_3 := bI_f c_3
    refine lv_ldc (v := (-99999999)) hx hb X.1.2.2.2.1 (X.1.2.2.2.2 _ ki_X10_234) dX10_kind_54 ?_
    exact m_iret X hr hlk hw hS (Nat.zero_le _) (Nat.zero_le _) ⟨by clear hb hx hl hS hw hnm hlk hr X; first | rfl | (simp_all [bI, r_kind]; done) | (simp_all [bI, r_kind]; rfl), rfl, rfl⟩ dX10_kind_56
  · skip
    have c_3 := bI_t c_3
    have c_30 := c_3
    obtain ⟨k_4, hk_k_4, hj_k_4, hi_k_4, rfl⟩ := isIn_nat (l := 0) (h := 39) (by decide) (by decide) c_30
    have hc_k_4 : (nI k_4).toNatClampNeg = k_4 := nI_clamp (by omega)
    refine lv_aload_n hx hb dX10_kind_12 rfl (lv_at hl 0 rfl) ?_
    refine r_get11 X hw dX10_kind_13 ?_
    refine lv_iload_n hx hb dX10_kind_16 rfl (lv_at hl 1 rfl) ?_
    refine r_ald11N X hw rfl (by omega) dX10_kind_17 ?_
    refine lv_if_lt (tgt := 54) hx hb dX10_kind_18 (by decide) (fun c_5 => ?_) (fun c_5 => ?_)
    · skip
      refine lv_ldc (v := (-99999999)) hx hb X.1.2.2.2.1 (X.1.2.2.2.2 _ ki_X10_234) dX10_kind_54 ?_
      exact m_iret X hr hlk hw hS (Nat.zero_le _) (Nat.zero_le _) ⟨by clear hb hx hl hS hw hnm hlk hr X; first | rfl | (simp_all [bI, r_kind]; done) | (simp_all [bI, r_kind]; rfl), rfl, rfl⟩ dX10_kind_56
    · skip
      obtain ⟨dd_6, hdd_6b, hdd_6⟩ := r_dp_nat (hsd k_4 (by omega)) c_5
      refine lv_iload_n hx hb dX10_kind_21 rfl (lv_at hl 2 rfl) ?_
      refine lv_i2l (v := b.toInt64) hx hb dX10_kind_22 rfl ?_
      refine lv_lconst (v := 0) hx hb dX10_kind_23 (by decide) ?_
      refine lv_bipush (v := 7) hx hb dX10_kind_24 (by decide) ?_
      refine lv_aload_n hx hb dX10_kind_26 rfl (lv_at hl 0 rfl) ?_
      refine r_get11 X hw dX10_kind_27 ?_
      refine lv_iload_n hx hb dX10_kind_30 rfl (lv_at hl 1 rfl) ?_
      refine r_ald11N X hw rfl (by omega) dX10_kind_31 ?_
      refine lv_iadd hx hb dX10_kind_32 ?_
      refine lv_i2l (v := (7 + (x.2.1 11 k_4)).toInt64) hx hb dX10_kind_33 rfl ?_
      refine m_calli (m_runS (As := [.long b.toInt64, .long 0, .long ((7 + (x.2.1 11 k_4)).toInt64)]) (rest := []) X (k_X10_isIn Γ l L (rM Γ L x) b.toInt64 0 ((7 + (x.2.1 11 k_4)).toInt64)) s_X10_isIn ml_X10_79 hw hS rfl hl.1 ⟨Nat.le_of_ble_eq_true rfl, Nat.le_of_ble_eq_true rfl⟩ (Nat.le_of_ble_eq_true rfl) ⟨Nat.le_of_ble_eq_true rfl, Nat.le_of_ble_eq_true rfl⟩ dX10_kind_34) hS (fun r_8 L1 M1 H locs hp_7 hw hS => ?_)
      obtain ⟨rfl, e1, e2⟩ := hp_7
      rw [e1, e2] at hw; clear e1 e2
      refine lv_if_eq (tgt := 54) hx hb dX10_kind_37 (by decide) (fun c_9 => ?_) (fun c_9 => ?_)
      · skip
        have c_9 := bI_f c_9
        refine lv_ldc (v := (-99999999)) hx hb X.1.2.2.2.1 (X.1.2.2.2.2 _ ki_X10_234) dX10_kind_54 ?_
        exact m_iret X hr hlk hw hS (Nat.zero_le _) (Nat.zero_le _) ⟨by clear hb hx hl hS hw hnm hlk hr X; first | rfl | (simp_all [bI, r_kind]; done) | (simp_all [bI, r_kind]; rfl), rfl, rfl⟩ dX10_kind_56
      · skip
        have c_9 := bI_t c_9
        have c_90 := c_9
        obtain ⟨k_10, hj_k_10, hi_k_10, rfl⟩ := isIn_nat2 (h := 7 + dd_6) (nadd (a := 7) (b := dd_6) rfl hdd_6) (by omega) c_90
        have hc_k_10 : (nI k_10).toNatClampNeg = k_10 := nI_clamp (by omega)
        refine lv_aload_n hx hb dX10_kind_40 rfl (lv_at hl 0 rfl) ?_
        refine r_get12 X hw dX10_kind_41 ?_
        refine lv_bipush (v := 16) hx hb dX10_kind_44 (by decide) ?_
        refine lv_iload_n hx hb dX10_kind_46 rfl (lv_at hl 1 rfl) ?_
        refine lv_imul hx hb dX10_kind_47 ?_
        refine lv_iload_n hx hb dX10_kind_48 rfl (lv_at hl 2 rfl) ?_
        refine lv_iadd hx hb dX10_kind_49 ?_
        refine r_ald12N X hw (nadd (a := 16 * k_4) (b := k_10) (nmul (a := 16) (b := k_4) rfl rfl) rfl) (by omega) dX10_kind_50 ?_
        refine lv_goto (tgt := 56) hx hb dX10_kind_51 (by decide) ?_
        exact m_iret X hr hlk hw hS (Nat.zero_le _) (Nat.zero_le _) ⟨by clear hb hx hl hS hw hnm hlk hr X; first | rfl | (simp_all [bI, r_kind]; done) | (simp_all [bI, r_kind]; rfl), rfl, rfl⟩ dX10_kind_56
theorem v_X10_frame : mVm yX10_frame cX10_frame 5 (some .int) 3 := ⟨cd_X10_frame, im_X10_frame, se_X10_frame, ini_X10, by decide, by decide, by decide +kernel⟩
set_option maxHeartbeats 4000000 in
set_option maxRecDepth 100000 in
theorem k_X10_frame (Γ : mG) (l : Launch) (L : mI → Nat) (x : RS) (a : Int32) (b : Int32) (g : Int32) (n : Nat) (hn : x.1 0 = nI n) (h8 : n ≤ 8) : mMet Γ l yX10_frame cX10_frame 5 (some .int) { frames := 2, cells := 0, slots := 0, locals := 46 } [.ref (L (.inl 0)), .int a, .int b, .int g] L (rM Γ L x) (mQi Γ (fun r L1 M1 => r = (r_frame x n a b g).1 ∧ L1 = L ∧ M1 = rM Γ L (r_frame x n a b g).2)) := by
  refine m_start (by decide) (Nat.le_of_ble_eq_true rfl) ?_
  intro p e s m args below meth c A ls X hr hlk hnm hw hS hl
  have hx := X.1.1
  have hb := X.1.2.1
  have hl : lv_has ls 5 [(0, .ref (L (.inl 0))), (1, .int a), (2, .int b), (3, .int g)] := hl
  have KL : ∀ (u t k i : Nat) (j : Int32) (H : Heap) (locs : List Loc) (ls : Array Slot), t + u = 16 → j = nI t → k < n → i ≤ 39 → a = nI k → b = nI i → r_isM n a = true → r_isIn b.toInt64 0 39 = true → r_isIn g.toInt64 (-1) 8 = true → mW Γ.1 vwCl A L (rM Γ L (sAs (sA x 7 (40 * k + i) g) 8 (fmA (x.2.1 8) (16 * (40 * k + i)) 0 t))) H → va_S A s.heap H locs → lv_has ls 5 [(4, .int j), (0, .ref (L (.inl 0))), (1, .int (nI k)), (2, .int (nI i)), (3, .int g)] → W p l e { frames := 2, cells := 0, slots := 0, locals := 46 } s m args below meth c H locs 0 0 (MQ below (mQi Γ (fun r L1 M1 => r = (r_frame x n a b g).1 ∧ L1 = L ∧ M1 = rM Γ L (r_frame x n a b g).2) A) args s 0 0 A) (F0 m 51 ls []) := by
    intro u
    induction u with
    | zero =>
      intro t k i j H locs ls ht hj hk hi ea eb h1 h2 h3 hw hS hl
      refine lv_iload hx hb dX10_frame_51 (lv_at hl 0 rfl) ?_
      refine lv_bipush (v := 16) hx hb dX10_frame_53 (by decide) ?_
      refine lv_icmp_ge (tgt := 82) hx hb dX10_frame_55 (by decide) (fun c_1 => ?_) (fun c_1 => ?_)
      · skip
        have c_1n : t ≥ 16 := ngeT (a := t) (b := 16) hj rfl (by omega) (by omega) c_1
        have c_1m : ¬ t < 16 := by omega
        refine lv_aload_n hx hb dX10_frame_82 rfl (lv_at hl 1 rfl) ?_
        refine lv_iload_n hx hb dX10_frame_83 rfl (lv_at hl 2 rfl) ?_
        refine m_callv (m_runV (i := .inl 0) (ci := 8) (As := [.int (nI k)]) (rest := []) X (k_X10_changed Γ l L (sAs (sA x 7 (40 * k + i) g) 8 (fmA (x.2.1 8) (16 * (40 * k + i)) 0 t)) (nI k) k rfl (by omega)) v_X10_changed ml_X10_133 hw hS rfl rfl rfl rfl hl.1 ⟨Nat.le_of_ble_eq_true rfl, Nat.le_of_ble_eq_true rfl⟩ (Nat.le_of_ble_eq_true rfl) ⟨Nat.le_of_ble_eq_true rfl, Nat.le_of_ble_eq_true rfl⟩ dX10_frame_84) hS (fun L1 M1 H locs hp_2 hw hS => ?_)
        obtain ⟨e1, e2⟩ := hp_2
        rw [e1, e2] at hw; clear e1 e2
        refine lv_iconst (v := 0) hx hb dX10_frame_87 (by decide) ?_
        exact m_iret X hr hlk hw hS (Nat.zero_le _) (Nat.zero_le _) ⟨by clear hb hx hl hS hw hnm hlk hr X; first | exact absurd ht (by omega) | (have ht16 : t = 16 := (by omega); subst ht16; have hcA : (nI k).toNatClampNeg = k := nI_clamp (by omega); have hcB : (nI i).toNatClampNeg = i := nI_clamp (by omega); subst ea; subst eb; simp [r_frame, h1, h2, h3, hcA, hcB]; done) | rfl | (simp_all [bI, r_frame]; done) | (simp_all [bI, r_frame]; rfl), rfl, by clear hb hx hl hS hw hnm hlk hr X; first | exact absurd ht (by omega) | (have ht16 : t = 16 := (by omega); subst ht16; have hcA : (nI k).toNatClampNeg = k := nI_clamp (by omega); have hcB : (nI i).toNatClampNeg = i := nI_clamp (by omega); subst ea; subst eb; simp [r_frame, h1, h2, h3, hcA, hcB]; done) | rfl | (simp_all [bI, r_frame]; done) | (simp_all [bI, r_frame]; rfl)⟩ dX10_frame_88
      · skip
        have c_1n : ¬ t ≥ 16 := ngeF (a := t) (b := 16) hj rfl (by omega) (by omega) c_1
        have c_1m : t < 16 := by omega
        refine lv_aload_n hx hb dX10_frame_58 rfl (lv_at hl 1 rfl) ?_
        refine r_get8 X hw dX10_frame_59 ?_
        refine lv_bipush (v := 16) hx hb dX10_frame_62 (by decide) ?_
        refine lv_bipush (v := 40) hx hb dX10_frame_64 (by decide) ?_
        refine lv_iload_n hx hb dX10_frame_66 rfl (lv_at hl 2 rfl) ?_
        refine lv_imul hx hb dX10_frame_67 ?_
        refine lv_iload_n hx hb dX10_frame_68 rfl (lv_at hl 3 rfl) ?_
        refine lv_iadd hx hb dX10_frame_69 ?_
        refine lv_imul hx hb dX10_frame_70 ?_
        refine lv_iload hx hb dX10_frame_71 (lv_at hl 0 rfl) ?_
        refine lv_iadd hx hb dX10_frame_73 ?_
        refine lv_iconst (v := 0) hx hb dX10_frame_74 (by decide) ?_
        refine r_ast8N X hw hS (nadd (a := 16 * ((40 * k) + i)) (b := t) (nmul (a := 16) (b := (40 * k) + i) rfl (nadd (a := 40 * k) (b := i) (nmul (a := 40) (b := k) rfl rfl) rfl)) hj) (by omega) dX10_frame_75 (fun H locs hw hS => ?_)
        refine lv_iinc (v := j + 1) (lv' := [(4, .int (j + 1)), (0, .ref (L (.inl 0))), (1, .int (nI k)), (2, .int (nI i)), (3, .int g)]) hx hb dX10_frame_76 hl (k := 0) rfl rfl (by decide) rfl (fun ls hl => ?_)
        refine lv_goto (tgt := 51) hx hb dX10_frame_79 (by decide) ?_
        exact absurd ht (by omega)
    | succ u ih =>
      intro t k i j H locs ls ht hj hk hi ea eb h1 h2 h3 hw hS hl
      refine lv_iload hx hb dX10_frame_51 (lv_at hl 0 rfl) ?_
      refine lv_bipush (v := 16) hx hb dX10_frame_53 (by decide) ?_
      refine lv_icmp_ge (tgt := 82) hx hb dX10_frame_55 (by decide) (fun c_4 => ?_) (fun c_4 => ?_)
      · skip
        have c_4n : t ≥ 16 := ngeT (a := t) (b := 16) hj rfl (by omega) (by omega) c_4
        have c_4m : ¬ t < 16 := by omega
        refine lv_aload_n hx hb dX10_frame_82 rfl (lv_at hl 1 rfl) ?_
        refine lv_iload_n hx hb dX10_frame_83 rfl (lv_at hl 2 rfl) ?_
        refine m_callv (m_runV (i := .inl 0) (ci := 8) (As := [.int (nI k)]) (rest := []) X (k_X10_changed Γ l L (sAs (sA x 7 (40 * k + i) g) 8 (fmA (x.2.1 8) (16 * (40 * k + i)) 0 t)) (nI k) k rfl (by omega)) v_X10_changed ml_X10_133 hw hS rfl rfl rfl rfl hl.1 ⟨Nat.le_of_ble_eq_true rfl, Nat.le_of_ble_eq_true rfl⟩ (Nat.le_of_ble_eq_true rfl) ⟨Nat.le_of_ble_eq_true rfl, Nat.le_of_ble_eq_true rfl⟩ dX10_frame_84) hS (fun L1 M1 H locs hp_5 hw hS => ?_)
        obtain ⟨e1, e2⟩ := hp_5
        rw [e1, e2] at hw; clear e1 e2
        refine lv_iconst (v := 0) hx hb dX10_frame_87 (by decide) ?_
        exact m_iret X hr hlk hw hS (Nat.zero_le _) (Nat.zero_le _) ⟨by clear hb hx hl hS hw hnm hlk hr X; first | exact absurd ht (by omega) | (have ht16 : t = 16 := (by omega); subst ht16; have hcA : (nI k).toNatClampNeg = k := nI_clamp (by omega); have hcB : (nI i).toNatClampNeg = i := nI_clamp (by omega); subst ea; subst eb; simp [r_frame, h1, h2, h3, hcA, hcB]; done) | rfl | (simp_all [bI, r_frame]; done) | (simp_all [bI, r_frame]; rfl), rfl, by clear hb hx hl hS hw hnm hlk hr X; first | exact absurd ht (by omega) | (have ht16 : t = 16 := (by omega); subst ht16; have hcA : (nI k).toNatClampNeg = k := nI_clamp (by omega); have hcB : (nI i).toNatClampNeg = i := nI_clamp (by omega); subst ea; subst eb; simp [r_frame, h1, h2, h3, hcA, hcB]; done) | rfl | (simp_all [bI, r_frame]; done) | (simp_all [bI, r_frame]; rfl)⟩ dX10_frame_88
      · skip
        have c_4n : ¬ t ≥ 16 := ngeF (a := t) (b := 16) hj rfl (by omega) (by omega) c_4
        have c_4m : t < 16 := by omega
        refine lv_aload_n hx hb dX10_frame_58 rfl (lv_at hl 1 rfl) ?_
        refine r_get8 X hw dX10_frame_59 ?_
        refine lv_bipush (v := 16) hx hb dX10_frame_62 (by decide) ?_
        refine lv_bipush (v := 40) hx hb dX10_frame_64 (by decide) ?_
        refine lv_iload_n hx hb dX10_frame_66 rfl (lv_at hl 2 rfl) ?_
        refine lv_imul hx hb dX10_frame_67 ?_
        refine lv_iload_n hx hb dX10_frame_68 rfl (lv_at hl 3 rfl) ?_
        refine lv_iadd hx hb dX10_frame_69 ?_
        refine lv_imul hx hb dX10_frame_70 ?_
        refine lv_iload hx hb dX10_frame_71 (lv_at hl 0 rfl) ?_
        refine lv_iadd hx hb dX10_frame_73 ?_
        refine lv_iconst (v := 0) hx hb dX10_frame_74 (by decide) ?_
        refine r_ast8N X hw hS (nadd (a := 16 * ((40 * k) + i)) (b := t) (nmul (a := 16) (b := (40 * k) + i) rfl (nadd (a := 40 * k) (b := i) (nmul (a := 40) (b := k) rfl rfl) rfl)) hj) (by omega) dX10_frame_75 (fun H locs hw hS => ?_)
        refine lv_iinc (v := j + 1) (lv' := [(4, .int (j + 1)), (0, .ref (L (.inl 0))), (1, .int (nI k)), (2, .int (nI i)), (3, .int g)]) hx hb dX10_frame_76 hl (k := 0) rfl rfl (by decide) rfl (fun ls hl => ?_)
        refine lv_goto (tgt := 51) hx hb dX10_frame_79 (by decide) ?_
        exact ih (t + 1) k i _ H locs ls (by omega) (nadd (a := t) (b := 1) hj rfl) hk hi ea eb h1 h2 h3 (by rw [← sAs_fm]; exact hw) hS hl
  refine lv_aload_n hx hb dX10_frame_0 rfl (lv_at hl 0 rfl) ?_
  refine lv_iload_n hx hb dX10_frame_1 rfl (lv_at hl 1 rfl) ?_
  refine m_calli (m_runV (i := .inl 0) (ci := 8) (As := [.int a]) (rest := []) X (k_X10_isMethod Γ l L x a n hn h8) v_X10_isMethod ml_X10_130 hw hS rfl rfl rfl rfl hl.1 ⟨Nat.le_of_ble_eq_true rfl, Nat.le_of_ble_eq_true rfl⟩ (Nat.le_of_ble_eq_true rfl) ⟨Nat.le_of_ble_eq_true rfl, Nat.le_of_ble_eq_true rfl⟩ dX10_frame_2) hS (fun r_8 L1 M1 H locs hp_7 hw hS => ?_)
  obtain ⟨rfl, e1, e2⟩ := hp_7
  rw [e1, e2] at hw; clear e1 e2
  refine lv_if_eq (tgt := 34) hx hb dX10_frame_5 (by decide) (fun c_9 => ?_) (fun c_9 => ?_)
  · skip
    have c_9 := bI_f c_9
    refine lv_iconst (v := (-1)) hx hb dX10_frame_34 (by decide) ?_
    exact m_iret X hr hlk hw hS (Nat.zero_le _) (Nat.zero_le _) ⟨by clear KL hb hx hl hS hw hnm hlk hr X; first | exact absurd ht (by omega) | (have ht16 : t = 16 := (by omega); subst ht16; have hcA : (nI k).toNatClampNeg = k := nI_clamp (by omega); have hcB : (nI i).toNatClampNeg = i := nI_clamp (by omega); subst ea; subst eb; simp [r_frame, h1, h2, h3, hcA, hcB]; done) | rfl | (simp_all [bI, r_frame]; done) | (simp_all [bI, r_frame]; rfl), rfl, by clear KL hb hx hl hS hw hnm hlk hr X; first | exact absurd ht (by omega) | (have ht16 : t = 16 := (by omega); subst ht16; have hcA : (nI k).toNatClampNeg = k := nI_clamp (by omega); have hcB : (nI i).toNatClampNeg = i := nI_clamp (by omega); subst ea; subst eb; simp [r_frame, h1, h2, h3, hcA, hcB]; done) | rfl | (simp_all [bI, r_frame]; done) | (simp_all [bI, r_frame]; rfl)⟩ dX10_frame_35
  · skip
    have c_9 := bI_t c_9
    have c_90 := c_9
    obtain ⟨k_10, hk_k_10, rfl⟩ := isM_nat c_90
    have hc_k_10 : (nI k_10).toNatClampNeg = k_10 := nI_clamp (by omega)
    refine lv_iload_n hx hb dX10_frame_8 rfl (lv_at hl 2 rfl) ?_
    refine lv_i2l (v := b.toInt64) hx hb dX10_frame_9 rfl ?_
    refine lv_lconst (v := 0) hx hb dX10_frame_10 (by decide) ?_
    refine lv_ldc2 (v := (39)) hx hb X.1.2.2.2.1 (X.1.2.2.2.2 _ kl_X10_137) dX10_frame_11 ?_
    refine m_calli (m_runS (As := [.long b.toInt64, .long 0, .long (39)]) (rest := []) X (k_X10_isIn Γ l L (rM Γ L x) b.toInt64 0 (39)) s_X10_isIn ml_X10_79 hw hS rfl hl.1 ⟨Nat.le_of_ble_eq_true rfl, Nat.le_of_ble_eq_true rfl⟩ (Nat.le_of_ble_eq_true rfl) ⟨Nat.le_of_ble_eq_true rfl, Nat.le_of_ble_eq_true rfl⟩ dX10_frame_14) hS (fun r_12 L1 M1 H locs hp_11 hw hS => ?_)
    obtain ⟨rfl, e1, e2⟩ := hp_11
    rw [e1, e2] at hw; clear e1 e2
    refine lv_if_eq (tgt := 34) hx hb dX10_frame_17 (by decide) (fun c_13 => ?_) (fun c_13 => ?_)
    · skip
      have c_13 := bI_f c_13
      refine lv_iconst (v := (-1)) hx hb dX10_frame_34 (by decide) ?_
      exact m_iret X hr hlk hw hS (Nat.zero_le _) (Nat.zero_le _) ⟨by clear KL hb hx hl hS hw hnm hlk hr X; first | exact absurd ht (by omega) | (have ht16 : t = 16 := (by omega); subst ht16; have hcA : (nI k).toNatClampNeg = k := nI_clamp (by omega); have hcB : (nI i).toNatClampNeg = i := nI_clamp (by omega); subst ea; subst eb; simp [r_frame, h1, h2, h3, hcA, hcB]; done) | rfl | (simp_all [bI, r_frame]; done) | (simp_all [bI, r_frame]; rfl), rfl, by clear KL hb hx hl hS hw hnm hlk hr X; first | exact absurd ht (by omega) | (have ht16 : t = 16 := (by omega); subst ht16; have hcA : (nI k).toNatClampNeg = k := nI_clamp (by omega); have hcB : (nI i).toNatClampNeg = i := nI_clamp (by omega); subst ea; subst eb; simp [r_frame, h1, h2, h3, hcA, hcB]; done) | rfl | (simp_all [bI, r_frame]; done) | (simp_all [bI, r_frame]; rfl)⟩ dX10_frame_35
    · skip
      have c_13 := bI_t c_13
      have c_130 := c_13
      obtain ⟨k_14, hk_k_14, hj_k_14, hi_k_14, rfl⟩ := isIn_nat (l := 0) (h := 39) (by decide) (by decide) c_130
      have hc_k_14 : (nI k_14).toNatClampNeg = k_14 := nI_clamp (by omega)
      refine lv_iload_n hx hb dX10_frame_20 rfl (lv_at hl 3 rfl) ?_
      refine lv_i2l (v := g.toInt64) hx hb dX10_frame_21 rfl ?_
      refine lv_ldc2 (v := (-1)) hx hb X.1.2.2.2.1 (X.1.2.2.2.2 _ kl_X10_141) dX10_frame_22 ?_
      refine lv_ldc2 (v := (8)) hx hb X.1.2.2.2.1 (X.1.2.2.2.2 _ kl_X10_143) dX10_frame_25 ?_
      refine m_calli (m_runS (As := [.long g.toInt64, .long (-1), .long (8)]) (rest := []) X (k_X10_isIn Γ l L (rM Γ L x) g.toInt64 (-1) (8)) s_X10_isIn ml_X10_79 hw hS rfl hl.1 ⟨Nat.le_of_ble_eq_true rfl, Nat.le_of_ble_eq_true rfl⟩ (Nat.le_of_ble_eq_true rfl) ⟨Nat.le_of_ble_eq_true rfl, Nat.le_of_ble_eq_true rfl⟩ dX10_frame_28) hS (fun r_16 L1 M1 H locs hp_15 hw hS => ?_)
      obtain ⟨rfl, e1, e2⟩ := hp_15
      rw [e1, e2] at hw; clear e1 e2
      refine lv_if_ne (tgt := 36) hx hb dX10_frame_31 (by decide) (fun c_17 => ?_) (fun c_17 => ?_)
      · skip
        have c_17 := bI_t c_17
        refine lv_aload_n hx hb dX10_frame_36 rfl (lv_at hl 0 rfl) ?_
        refine r_get7 X hw dX10_frame_37 ?_
        refine lv_bipush (v := 40) hx hb dX10_frame_40 (by decide) ?_
        refine lv_iload_n hx hb dX10_frame_42 rfl (lv_at hl 1 rfl) ?_
        refine lv_imul hx hb dX10_frame_43 ?_
        refine lv_iload_n hx hb dX10_frame_44 rfl (lv_at hl 2 rfl) ?_
        refine lv_iadd hx hb dX10_frame_45 ?_
        refine lv_iload_n hx hb dX10_frame_46 rfl (lv_at hl 3 rfl) ?_
        refine r_ast7N X hw hS (nadd (a := 40 * k_10) (b := k_14) (nmul (a := 40) (b := k_10) rfl rfl) rfl) (by omega) dX10_frame_47 (fun H locs hw hS => ?_)
        refine lv_iconst (v := 0) hx hb dX10_frame_48 (by decide) ?_
        refine lv_istore (lv' := [(4, .int 0), (0, .ref (L (.inl 0))), (1, .int (nI k_10)), (2, .int (nI k_14)), (3, .int g)]) hx hb dX10_frame_49 hl (by decide) rfl (fun ls hl => ?_)
        exact KL 16 0 k_10 k_14 _ _ _ ls rfl rfl (by omega) (by omega) rfl rfl (by assumption) (by assumption) (by assumption) (by have e := sAs_0 (sA x 7 (40 * k_10 + k_14) g) 8 (16 * (40 * k_10 + k_14)) 0; show mW Γ.1 vwCl A L (rM Γ L (sAs (sA x 7 (40 * k_10 + k_14) g) 8 (fmA ((sA x 7 (40 * k_10 + k_14) g).2.1 8) (16 * (40 * k_10 + k_14)) 0 0))) _; rw [e]; exact hw) hS (lv_sub hl [0, 1, 2, 3, 4] rfl)
      · skip
        have c_17 := bI_f c_17
        refine lv_iconst (v := (-1)) hx hb dX10_frame_34 (by decide) ?_
        exact m_iret X hr hlk hw hS (Nat.zero_le _) (Nat.zero_le _) ⟨by clear KL hb hx hl hS hw hnm hlk hr X; first | exact absurd ht (by omega) | (have ht16 : t = 16 := (by omega); subst ht16; have hcA : (nI k).toNatClampNeg = k := nI_clamp (by omega); have hcB : (nI i).toNatClampNeg = i := nI_clamp (by omega); subst ea; subst eb; simp [r_frame, h1, h2, h3, hcA, hcB]; done) | rfl | (simp_all [bI, r_frame]; done) | (simp_all [bI, r_frame]; rfl), rfl, by clear KL hb hx hl hS hw hnm hlk hr X; first | exact absurd ht (by omega) | (have ht16 : t = 16 := (by omega); subst ht16; have hcA : (nI k).toNatClampNeg = k := nI_clamp (by omega); have hcB : (nI i).toNatClampNeg = i := nI_clamp (by omega); subst ea; subst eb; simp [r_frame, h1, h2, h3, hcA, hcB]; done) | rfl | (simp_all [bI, r_frame]; done) | (simp_all [bI, r_frame]; rfl)⟩ dX10_frame_35
