/-! THE CLASS'S HEAP AND MACHINE, by shape -/
theorem dn_pre {v : Int32} {z : Nat} (h : v = nI z) : dn z (v - 1) := by
  subst h
  cases z with
  | zero => exact Or.inl ⟨rfl, rfl⟩
  | succ k => exact Or.inr ⟨k, rfl, nsub (a := k + 1) (b := 1) (by omega) rfl rfl⟩
theorem v_X1_isNull : mVm yX1_isNull cX1_isNull 2 (some .boolean) 1 := ⟨cd_X1_isNull, im_X1_isNull, se_X1_isNull, ini_X1, by decide, by decide, by decide +kernel⟩
set_option maxHeartbeats 4000000 in
set_option maxRecDepth 100000 in
theorem k_X1_isNull (Γ : mG) (l : Launch) (L : mI → Nat) (x : CS) (k : Int32)  : mMet Γ l yX1_isNull cX1_isNull 2 (some .boolean) { frames := 0, cells := 0, slots := 0, locals := 0 } [.ref (L (nm 0 11)), .int k] L (cM Γ L x) (mQi Γ (fun r L1 M1 => r = bI (h_nul (x.1 0 11 4) k) ∧ L1 = L ∧ M1 = cM Γ L x)) := by
  refine m_start (by decide) (Nat.le_of_ble_eq_true rfl) ?_
  intro p e s m args below meth c A ls X hr hlk hnm hw hS hl
  have hx := X.1.1
  have hb := X.1.2.1
  have hl : lv_has ls 2 [(0, .ref (L (nm 0 11))), (1, .int k)] := hl
  refine lv_iload_n hx hb dX1_isNull_0 rfl (lv_at hl 1 rfl) ?_
  refine lv_if_le (tgt := 18) hx hb dX1_isNull_1 (by decide) (fun c_1 => ?_) (fun c_1 => ?_)
  · skip
    refine lv_iconst (v := 1) hx hb dX1_isNull_18 (by decide) ?_
    refine lv_goto (tgt := 23) hx hb dX1_isNull_19 (by decide) ?_
    exact m_zret (b := h_nul (x.1 0 11 4) k) X hr hlk hw hS (Nat.le_of_ble_eq_true rfl) (Nat.le_of_ble_eq_true rfl) (by clear hb hx hl hS hw hnm hlk hr X; first | rfl | (simp_all [bI, h_nul]; done)) ⟨rfl, rfl, rfl⟩ dX1_isNull_23
  · skip
    refine lv_iload_n hx hb dX1_isNull_4 rfl (lv_at hl 1 rfl) ?_
    refine lv_aload_n hx hb dX1_isNull_5 rfl (lv_at hl 0 rfl) ?_
    refine s_get (a := 0) (b := 11) (ci := 1) X hw rfl rfl gX1 4 (by decide) fl_X1_22 rfl rfl dX1_isNull_6 ?_
    refine lv_icmp_gt (tgt := 18) hx hb dX1_isNull_9 (by decide) (fun c_2 => ?_) (fun c_2 => ?_)
    · skip
      refine lv_iconst (v := 1) hx hb dX1_isNull_18 (by decide) ?_
      refine lv_goto (tgt := 23) hx hb dX1_isNull_19 (by decide) ?_
      exact m_zret (b := h_nul (x.1 0 11 4) k) X hr hlk hw hS (Nat.le_of_ble_eq_true rfl) (Nat.le_of_ble_eq_true rfl) (by clear hb hx hl hS hw hnm hlk hr X; first | rfl | (simp_all [bI, h_nul]; done)) ⟨rfl, rfl, rfl⟩ dX1_isNull_23
    · skip
      refine lv_iload_n hx hb dX1_isNull_12 rfl (lv_at hl 1 rfl) ?_
      refine lv_bipush (v := 20) hx hb dX1_isNull_13 (by decide) ?_
      refine lv_icmp_le (tgt := 22) hx hb dX1_isNull_15 (by decide) (fun c_3 => ?_) (fun c_3 => ?_)
      · skip
        refine lv_iconst (v := 0) hx hb dX1_isNull_22 (by decide) ?_
        exact m_zret (b := h_nul (x.1 0 11 4) k) X hr hlk hw hS (Nat.le_of_ble_eq_true rfl) (Nat.le_of_ble_eq_true rfl) (by clear hb hx hl hS hw hnm hlk hr X; first | rfl | (simp_all [bI, h_nul]; done)) ⟨rfl, rfl, rfl⟩ dX1_isNull_23
      · skip
        refine lv_iconst (v := 1) hx hb dX1_isNull_18 (by decide) ?_
        refine lv_goto (tgt := 23) hx hb dX1_isNull_19 (by decide) ?_
        exact m_zret (b := h_nul (x.1 0 11 4) k) X hr hlk hw hS (Nat.le_of_ble_eq_true rfl) (Nat.le_of_ble_eq_true rfl) (by clear hb hx hl hS hw hnm hlk hr X; first | rfl | (simp_all [bI, h_nul]; done)) ⟨rfl, rfl, rfl⟩ dX1_isNull_23
theorem v_X1_length : mVm yX1_length cX1_length 2 (some .int) 1 := ⟨cd_X1_length, im_X1_length, se_X1_length, ini_X1, by decide, by decide, by decide +kernel⟩
set_option maxHeartbeats 4000000 in
set_option maxRecDepth 100000 in
theorem k_X1_length (Γ : mG) (l : Launch) (L : mI → Nat) (x : CS) (k : Int32) (hI : CInv x) : mMet Γ l yX1_length cX1_length 2 (some .int) { frames := 1, cells := 0, slots := 0, locals := 21 } [.ref (L (nm 0 11)), .int k] L (cM Γ L x) (mQi Γ (fun r L1 M1 => L1 = L ∧ M1 = cM Γ L x)) := by
  refine m_start (by decide) (Nat.le_of_ble_eq_true rfl) ?_
  intro p e s m args below meth c A ls X hr hlk hnm hw hS hl
  have hx := X.1.1
  have hb := X.1.2.1
  have hl : lv_has ls 2 [(0, .ref (L (nm 0 11))), (1, .int k)] := hl
  refine lv_aload_n hx hb dX1_length_0 rfl (lv_at hl 0 rfl) ?_
  refine lv_iload_n hx hb dX1_length_1 rfl (lv_at hl 1 rfl) ?_
  refine m_calli (m_runV (i := nm 0 11) (ci := 1) (As := [.int k]) (rest := []) X (k_X1_isNull Γ l L x k) v_X1_isNull ml_X1_26 hw hS rfl rfl rfl rfl hl.1 ⟨Nat.le_of_ble_eq_true rfl, Nat.le_of_ble_eq_true rfl⟩ (Nat.le_of_ble_eq_true rfl) ⟨Nat.le_of_ble_eq_true rfl, Nat.le_of_ble_eq_true rfl⟩ dX1_length_2) hS (fun r_1 L1 M1 H locs hp_1 hw hS => ?_)
  obtain ⟨rfl, e1, e2⟩ := hp_1
  rw [e1, e2] at hw; clear e1 e2
  refine lv_if_eq (tgt := 12) hx hb dX1_length_5 (by decide) (fun c_2 => ?_) (fun c_2 => ?_)
  · skip
    have c_2 := bI_f c_2
    obtain ⟨kn, h1kn, h2kn, ekn⟩ := nul_nat c_2
    refine lv_aload_n hx hb dX1_length_12 rfl (lv_at hl 0 rfl) ?_
    refine s_get (a := 0) (b := 11) (ci := 1) X hw rfl rfl gX1 1 (by decide) fl_X1_13 rfl rfl dX1_length_13 ?_
    refine lv_iload_n hx hb dX1_length_16 rfl (lv_at hl 1 rfl) ?_
    refine s_iald (n := 21) (k := kn) X hw rfl ekn (by omega) (by decide) dX1_length_17 ?_
    exact m_iret X hr hlk hw hS (Nat.le_of_ble_eq_true rfl) (Nat.le_of_ble_eq_true rfl) ⟨rfl, rfl⟩ dX1_length_18
  · skip
    have c_2 := bI_t c_2
    refine lv_iconst (v := 0) hx hb dX1_length_8 (by decide) ?_
    refine lv_goto (tgt := 18) hx hb dX1_length_9 (by decide) ?_
    exact m_iret X hr hlk hw hS (Nat.le_of_ble_eq_true rfl) (Nat.le_of_ble_eq_true rfl) ⟨rfl, rfl⟩ dX1_length_18
theorem v_X1_field : mVm yX1_field cX1_field 2 (some .int) 1 := ⟨cd_X1_field, im_X1_field, se_X1_field, ini_X1, by decide, by decide, by decide +kernel⟩
set_option maxHeartbeats 4000000 in
set_option maxRecDepth 100000 in
theorem k_X1_field (Γ : mG) (l : Launch) (L : mI → Nat) (x : CS) (k : Int32) (hI : CInv x) : mMet Γ l yX1_field cX1_field 2 (some .int) { frames := 1, cells := 0, slots := 0, locals := 21 } [.ref (L (nm 0 11)), .int k] L (cM Γ L x) (mQi Γ (fun r L1 M1 => L1 = L ∧ M1 = cM Γ L x)) := by
  refine m_start (by decide) (Nat.le_of_ble_eq_true rfl) ?_
  intro p e s m args below meth c A ls X hr hlk hnm hw hS hl
  have hx := X.1.1
  have hb := X.1.2.1
  have hl : lv_has ls 2 [(0, .ref (L (nm 0 11))), (1, .int k)] := hl
  refine lv_aload_n hx hb dX1_field_0 rfl (lv_at hl 0 rfl) ?_
  refine lv_iload_n hx hb dX1_field_1 rfl (lv_at hl 1 rfl) ?_
  refine m_calli (m_runV (i := nm 0 11) (ci := 1) (As := [.int k]) (rest := []) X (k_X1_isNull Γ l L x k) v_X1_isNull ml_X1_26 hw hS rfl rfl rfl rfl hl.1 ⟨Nat.le_of_ble_eq_true rfl, Nat.le_of_ble_eq_true rfl⟩ (Nat.le_of_ble_eq_true rfl) ⟨Nat.le_of_ble_eq_true rfl, Nat.le_of_ble_eq_true rfl⟩ dX1_field_2) hS (fun r_1 L1 M1 H locs hp_1 hw hS => ?_)
  obtain ⟨rfl, e1, e2⟩ := hp_1
  rw [e1, e2] at hw; clear e1 e2
  refine lv_if_eq (tgt := 12) hx hb dX1_field_5 (by decide) (fun c_2 => ?_) (fun c_2 => ?_)
  · skip
    have c_2 := bI_f c_2
    obtain ⟨kn, h1kn, h2kn, ekn⟩ := nul_nat c_2
    refine lv_aload_n hx hb dX1_field_12 rfl (lv_at hl 0 rfl) ?_
    refine s_get (a := 0) (b := 11) (ci := 1) X hw rfl rfl gX1 2 (by decide) fl_X1_16 rfl rfl dX1_field_13 ?_
    refine lv_iload_n hx hb dX1_field_16 rfl (lv_at hl 1 rfl) ?_
    refine s_iald (n := 21) (k := kn) X hw rfl ekn (by omega) (by decide) dX1_field_17 ?_
    exact m_iret X hr hlk hw hS (Nat.le_of_ble_eq_true rfl) (Nat.le_of_ble_eq_true rfl) ⟨rfl, rfl⟩ dX1_field_18
  · skip
    have c_2 := bI_t c_2
    refine lv_iconst (v := 0) hx hb dX1_field_8 (by decide) ?_
    refine lv_goto (tgt := 18) hx hb dX1_field_9 (by decide) ?_
    exact m_iret X hr hlk hw hS (Nat.le_of_ble_eq_true rfl) (Nat.le_of_ble_eq_true rfl) ⟨rfl, rfl⟩ dX1_field_18
theorem v_X1_worth : mVm yX1_worth cX1_worth 5 (some .int) 1 := ⟨cd_X1_worth, im_X1_worth, se_X1_worth, ini_X1, by decide, by decide, by decide +kernel⟩
set_option maxHeartbeats 4000000 in
set_option maxRecDepth 100000 in
theorem k_X1_worth (Γ : mG) (l : Launch) (L : mI → Nat) (x : CS) (k : Int32) (hI : CInv x) : mMet Γ l yX1_worth cX1_worth 5 (some .int) { frames := 1, cells := 0, slots := 0, locals := 21 } [.ref (L (nm 0 11)), .int k] L (cM Γ L x) (mQi Γ (fun r L1 M1 => L1 = L ∧ M1 = cM Γ L x)) := by
  refine m_start (by decide) (Nat.le_of_ble_eq_true rfl) ?_
  intro p e s m args below meth c A ls X hr hlk hnm hw hS hl
  have hx := X.1.1
  have hb := X.1.2.1
  have hl : lv_has ls 5 [(0, .ref (L (nm 0 11))), (1, .int k)] := hl
  refine lv_aload_n hx hb dX1_worth_0 rfl (lv_at hl 0 rfl) ?_
  refine lv_iload_n hx hb dX1_worth_1 rfl (lv_at hl 1 rfl) ?_
  refine m_calli (m_runV (i := nm 0 11) (ci := 1) (As := [.int k]) (rest := []) X (k_X1_isNull Γ l L x k) v_X1_isNull ml_X1_26 hw hS rfl rfl rfl rfl hl.1 ⟨Nat.le_of_ble_eq_true rfl, Nat.le_of_ble_eq_true rfl⟩ (Nat.le_of_ble_eq_true rfl) ⟨Nat.le_of_ble_eq_true rfl, Nat.le_of_ble_eq_true rfl⟩ dX1_worth_2) hS (fun r_1 L1 M1 H locs hp_1 hw hS => ?_)
  obtain ⟨rfl, e1, e2⟩ := hp_1
  rw [e1, e2] at hw; clear e1 e2
  refine lv_if_eq (tgt := 10) hx hb dX1_worth_5 (by decide) (fun c_2 => ?_) (fun c_2 => ?_)
  · skip
    have c_2 := bI_f c_2
    obtain ⟨kn, h1kn, h2kn, ekn⟩ := nul_nat c_2
    refine lv_iconst (v := 1) hx hb dX1_worth_10 (by decide) ?_
    refine lv_aload_n hx hb dX1_worth_11 rfl (lv_at hl 0 rfl) ?_
    refine s_get (a := 0) (b := 11) (ci := 1) X hw rfl rfl gX1 2 (by decide) fl_X1_16 rfl rfl dX1_worth_12 ?_
    refine lv_iload_n hx hb dX1_worth_15 rfl (lv_at hl 1 rfl) ?_
    refine s_iald (n := 21) (k := kn) X hw rfl ekn (by omega) (by decide) dX1_worth_16 ?_
    refine lv_iadd hx hb dX1_worth_17 ?_
    refine lv_istore_n (lv' := [(2, .int (1 + (x.2.1 0 14 kn))), (0, .ref (L (nm 0 11))), (1, .int k)]) hx hb dX1_worth_18 rfl hl (by decide) rfl (fun ls hl => ?_)
    refine lv_bipush (v := 10) hx hb dX1_worth_19 (by decide) ?_
    refine lv_istore_n (lv' := [(3, .int 10), (2, .int (1 + (x.2.1 0 14 kn))), (0, .ref (L (nm 0 11))), (1, .int k)]) hx hb dX1_worth_21 rfl hl (by decide) rfl (fun ls hl => ?_)
    refine lv_bipush (v := 100) hx hb dX1_worth_22 (by decide) ?_
    refine lv_aload_n hx hb dX1_worth_24 rfl (lv_at hl 2 rfl) ?_
    refine s_get (a := 0) (b := 11) (ci := 1) X hw rfl rfl gX1 2 (by decide) fl_X1_16 rfl rfl dX1_worth_25 ?_
    refine lv_iload_n hx hb dX1_worth_28 rfl (lv_at hl 3 rfl) ?_
    refine s_iald (n := 21) (k := kn) X hw rfl ekn (by omega) (by decide) dX1_worth_29 ?_
    refine lv_iadd hx hb dX1_worth_30 ?_
    refine lv_istore (lv' := [(4, .int (100 + (x.2.1 0 14 kn))), (3, .int 10), (2, .int (1 + (x.2.1 0 14 kn))), (0, .ref (L (nm 0 11))), (1, .int k)]) hx hb dX1_worth_31 hl (by decide) rfl (fun ls hl => ?_)
    refine lv_aload_n hx hb dX1_worth_33 rfl (lv_at hl 3 rfl) ?_
    refine s_get (a := 0) (b := 11) (ci := 1) X hw rfl rfl gX1 0 (by decide) fl_X1_9 rfl rfl dX1_worth_34 ?_
    refine lv_iload_n hx hb dX1_worth_37 rfl (lv_at hl 4 rfl) ?_
    refine s_iald (n := 21) (k := kn) X hw rfl ekn (by omega) (by decide) dX1_worth_38 ?_
    refine lv_bipush (v := 10) hx hb dX1_worth_39 (by decide) ?_
    refine lv_isub hx hb dX1_worth_41 ?_
    by_cases c_3 : ((x.2.1 0 12 kn) - 10).toInt < 1 ∨ 4 < ((x.2.1 0 12 kn) - 10).toInt
    · refine lv_tableOut (tgt := 91) hx hb dX1_worth_42 c_3 (by decide) ?_
      refine lv_iload hx hb dX1_worth_91 (lv_at hl 0 rfl) ?_
      exact m_iret X hr hlk hw hS (Nat.le_of_ble_eq_true rfl) (Nat.le_of_ble_eq_true rfl) ⟨rfl, rfl⟩ dX1_worth_93
    · have c_3b : ((x.2.1 0 12 kn) - 10).toInt = 1 ∨ ((x.2.1 0 12 kn) - 10).toInt = 2 ∨ ((x.2.1 0 12 kn) - 10).toInt = 3 ∨ ((x.2.1 0 12 kn) - 10).toInt = 4 := by omega
      rcases c_3b with c_3v | c_3v | c_3v | c_3v
      · have c_3e : ((x.2.1 0 12 kn) - 10) = 1 := Int32.toInt_inj.mp c_3v
        refine lv_tableIn (off := 30) (tgt := 72) hx hb dX1_worth_42 (by omega) (by omega) (by rw [c_3v]; rfl) (by decide) ?_
        refine lv_iload_n hx hb dX1_worth_72 rfl (lv_at hl 2 rfl) ?_
        exact m_iret X hr hlk hw hS (Nat.le_of_ble_eq_true rfl) (Nat.le_of_ble_eq_true rfl) ⟨rfl, rfl⟩ dX1_worth_73
      · have c_3e : ((x.2.1 0 12 kn) - 10) = 2 := Int32.toInt_inj.mp c_3v
        refine lv_tableIn (off := 32) (tgt := 74) hx hb dX1_worth_42 (by omega) (by omega) (by rw [c_3v]; rfl) (by decide) ?_
        refine lv_iconst (v := 2) hx hb dX1_worth_74 (by decide) ?_
        refine lv_iload_n hx hb dX1_worth_75 rfl (lv_at hl 2 rfl) ?_
        refine lv_imul hx hb dX1_worth_76 ?_
        exact m_iret X hr hlk hw hS (Nat.le_of_ble_eq_true rfl) (Nat.le_of_ble_eq_true rfl) ⟨rfl, rfl⟩ dX1_worth_77
      · have c_3e : ((x.2.1 0 12 kn) - 10) = 3 := Int32.toInt_inj.mp c_3v
        refine lv_tableIn (off := 36) (tgt := 78) hx hb dX1_worth_42 (by omega) (by omega) (by rw [c_3v]; rfl) (by decide) ?_
        refine lv_iload_n hx hb dX1_worth_78 rfl (lv_at hl 1 rfl) ?_
        refine lv_iload_n hx hb dX1_worth_79 rfl (lv_at hl 2 rfl) ?_
        refine lv_iadd hx hb dX1_worth_80 ?_
        exact m_iret X hr hlk hw hS (Nat.le_of_ble_eq_true rfl) (Nat.le_of_ble_eq_true rfl) ⟨rfl, rfl⟩ dX1_worth_81
      · have c_3e : ((x.2.1 0 12 kn) - 10) = 4 := Int32.toInt_inj.mp c_3v
        refine lv_tableIn (off := 40) (tgt := 82) hx hb dX1_worth_42 (by omega) (by omega) (by rw [c_3v]; rfl) (by decide) ?_
        refine lv_iconst (v := 2) hx hb dX1_worth_82 (by decide) ?_
        refine lv_iload_n hx hb dX1_worth_83 rfl (lv_at hl 2 rfl) ?_
        refine lv_imul hx hb dX1_worth_84 ?_
        refine lv_iload_n hx hb dX1_worth_85 rfl (lv_at hl 1 rfl) ?_
        refine lv_isub hx hb dX1_worth_86 ?_
        refine lv_iload hx hb dX1_worth_87 (lv_at hl 0 rfl) ?_
        refine lv_iadd hx hb dX1_worth_89 ?_
        exact m_iret X hr hlk hw hS (Nat.le_of_ble_eq_true rfl) (Nat.le_of_ble_eq_true rfl) ⟨rfl, rfl⟩ dX1_worth_90
  · skip
    have c_2 := bI_t c_2
    refine lv_iconst (v := 0) hx hb dX1_worth_8 (by decide) ?_
    exact m_iret X hr hlk hw hS (Nat.le_of_ble_eq_true rfl) (Nat.le_of_ble_eq_true rfl) ⟨rfl, rfl⟩ dX1_worth_9
theorem v_X1_isOf : mVm yX1_isOf cX1_isOf 3 (some .boolean) 2 := ⟨cd_X1_isOf, im_X1_isOf, se_X1_isOf, ini_X1, by decide, by decide, by decide +kernel⟩
set_option maxHeartbeats 4000000 in
set_option maxRecDepth 100000 in
theorem k_X1_isOf (Γ : mG) (l : Launch) (L : mI → Nat) (x : CS) (k : Int32) (w : Int32) (hI : CInv x) : mMet Γ l yX1_isOf cX1_isOf 3 (some .boolean) { frames := 1, cells := 0, slots := 0, locals := 21 } [.ref (L (nm 0 11)), .int k, .int w] L (cM Γ L x) (mQi Γ (fun r L1 M1 => (∃ t : Bool, r = bI t) ∧ L1 = L ∧ M1 = cM Γ L x)) := by
  refine m_start (by decide) (Nat.le_of_ble_eq_true rfl) ?_
  intro p e s m args below meth c A ls X hr hlk hnm hw hS hl
  have hx := X.1.1
  have hb := X.1.2.1
  have hl : lv_has ls 3 [(0, .ref (L (nm 0 11))), (1, .int k), (2, .int w)] := hl
  refine lv_aload_n hx hb dX1_isOf_0 rfl (lv_at hl 0 rfl) ?_
  refine lv_iload_n hx hb dX1_isOf_1 rfl (lv_at hl 1 rfl) ?_
  refine m_calli (m_runV (i := nm 0 11) (ci := 1) (As := [.int k]) (rest := []) X (k_X1_isNull Γ l L x k) v_X1_isNull ml_X1_26 hw hS rfl rfl rfl rfl hl.1 ⟨Nat.le_of_ble_eq_true rfl, Nat.le_of_ble_eq_true rfl⟩ (Nat.le_of_ble_eq_true rfl) ⟨Nat.le_of_ble_eq_true rfl, Nat.le_of_ble_eq_true rfl⟩ dX1_isOf_2) hS (fun r_1 L1 M1 H locs hp_1 hw hS => ?_)
  obtain ⟨rfl, e1, e2⟩ := hp_1
  rw [e1, e2] at hw; clear e1 e2
  refine lv_if_eq (tgt := 10) hx hb dX1_isOf_5 (by decide) (fun c_2 => ?_) (fun c_2 => ?_)
  · skip
    have c_2 := bI_f c_2
    obtain ⟨kn, h1kn, h2kn, ekn⟩ := nul_nat c_2
    refine lv_aload_n hx hb dX1_isOf_10 rfl (lv_at hl 0 rfl) ?_
    refine s_get (a := 0) (b := 11) (ci := 1) X hw rfl rfl gX1 0 (by decide) fl_X1_9 rfl rfl dX1_isOf_11 ?_
    refine lv_iload_n hx hb dX1_isOf_14 rfl (lv_at hl 1 rfl) ?_
    refine s_iald (n := 21) (k := kn) X hw rfl ekn (by omega) (by decide) dX1_isOf_15 ?_
    refine m_calli (m_runS (As := [.int (x.2.1 0 12 kn)]) (rest := []) X (k_X3_isObject Γ l L (cM Γ L (x)) (x.2.1 0 12 kn)) s_X3_isObject ml_X1_34 hw hS rfl hl.1 ⟨Nat.le_of_ble_eq_true rfl, Nat.le_of_ble_eq_true rfl⟩ (Nat.le_of_ble_eq_true rfl) ⟨Nat.le_of_ble_eq_true rfl, Nat.le_of_ble_eq_true rfl⟩ dX1_isOf_16) hS (fun r_3 L1 M1 H locs hp_3 hw hS => ?_)
    obtain ⟨rfl, e1, e2⟩ := hp_3
    rw [e1, e2] at hw; clear e1 e2
    refine lv_if_ne (tgt := 32) hx hb dX1_isOf_19 (by decide) (fun c_4 => ?_) (fun c_4 => ?_)
    · skip
      have c_4 := bI_t c_4
      refine lv_aload_n hx hb dX1_isOf_32 rfl (lv_at hl 0 rfl) ?_
      refine s_get (a := 0) (b := 11) (ci := 1) X hw rfl rfl gX1 0 (by decide) fl_X1_9 rfl rfl dX1_isOf_33 ?_
      refine lv_iload_n hx hb dX1_isOf_36 rfl (lv_at hl 1 rfl) ?_
      refine s_iald (n := 21) (k := kn) X hw rfl ekn (by omega) (by decide) dX1_isOf_37 ?_
      refine lv_bipush (v := 10) hx hb dX1_isOf_38 (by decide) ?_
      refine lv_isub hx hb dX1_isOf_40 ?_
      refine lv_iload_n hx hb dX1_isOf_41 rfl (lv_at hl 2 rfl) ?_
      refine m_calli (m_runS (As := [.int ((x.2.1 0 12 kn) - 10), .int w]) (rest := []) X (k_X3_isUnder Γ l L (cM Γ L (x)) ((x.2.1 0 12 kn) - 10) w) s_X3_isUnder ml_X1_39 hw hS rfl hl.1 ⟨Nat.le_of_ble_eq_true rfl, Nat.le_of_ble_eq_true rfl⟩ (Nat.le_of_ble_eq_true rfl) ⟨Nat.le_of_ble_eq_true rfl, Nat.le_of_ble_eq_true rfl⟩ dX1_isOf_42) hS (fun r_5 L1 M1 H locs hp_5 hw hS => ?_)
      obtain ⟨rfl, e1, e2⟩ := hp_5
      rw [e1, e2] at hw; clear e1 e2
      exact m_zret (b := (k_und ((x.2.1 0 12 kn) - 10) w)) X hr hlk hw hS (Nat.le_of_ble_eq_true rfl) (Nat.le_of_ble_eq_true rfl) rfl ⟨⟨_, rfl⟩, rfl, rfl⟩ dX1_isOf_45
    · skip
      have c_4 := bI_f c_4
      refine lv_iload_n hx hb dX1_isOf_22 rfl (lv_at hl 2 rfl) ?_
      refine lv_if_ne (tgt := 30) hx hb dX1_isOf_23 (by decide) (fun c_6 => ?_) (fun c_6 => ?_)
      · skip
        refine lv_iconst (v := 0) hx hb dX1_isOf_30 (by decide) ?_
        exact m_zret (b := false) X hr hlk hw hS (Nat.le_of_ble_eq_true rfl) (Nat.le_of_ble_eq_true rfl) rfl ⟨⟨_, rfl⟩, rfl, rfl⟩ dX1_isOf_31
      · skip
        refine lv_iconst (v := 1) hx hb dX1_isOf_26 (by decide) ?_
        refine lv_goto (tgt := 31) hx hb dX1_isOf_27 (by decide) ?_
        exact m_zret (b := true) X hr hlk hw hS (Nat.le_of_ble_eq_true rfl) (Nat.le_of_ble_eq_true rfl) rfl ⟨⟨_, rfl⟩, rfl, rfl⟩ dX1_isOf_31
  · skip
    have c_2 := bI_t c_2
    refine lv_iconst (v := 0) hx hb dX1_isOf_8 (by decide) ?_
    exact m_zret (b := false) X hr hlk hw hS (Nat.le_of_ble_eq_true rfl) (Nat.le_of_ble_eq_true rfl) rfl ⟨⟨_, rfl⟩, rfl, rfl⟩ dX1_isOf_9
theorem v_X1_hasItem : mVm yX1_hasItem cX1_hasItem 3 (some .boolean) 2 := ⟨cd_X1_hasItem, im_X1_hasItem, se_X1_hasItem, ini_X1, by decide, by decide, by decide +kernel⟩
set_option maxHeartbeats 4000000 in
set_option maxRecDepth 100000 in
theorem k_X1_hasItem (Γ : mG) (l : Launch) (L : mI → Nat) (x : CS) (k : Int32) (w : Int32) (hI : CInv x) : mMet Γ l yX1_hasItem cX1_hasItem 3 (some .boolean) { frames := 1, cells := 0, slots := 0, locals := 21 } [.ref (L (nm 0 11)), .int k, .int w] L (cM Γ L x) (mQi Γ (fun r L1 M1 => (∃ t : Bool, r = bI t ∧ (t = true → ∃ n i, 1 ≤ n ∧ n ≤ 20 ∧ k = nI n ∧ i < 30 ∧ w = nI i)) ∧ L1 = L ∧ M1 = cM Γ L x)) := by
  refine m_start (by decide) (Nat.le_of_ble_eq_true rfl) ?_
  intro p e s m args below meth c A ls X hr hlk hnm hw hS hl
  have hx := X.1.1
  have hb := X.1.2.1
  have hl : lv_has ls 3 [(0, .ref (L (nm 0 11))), (1, .int k), (2, .int w)] := hl
  refine lv_aload_n hx hb dX1_hasItem_0 rfl (lv_at hl 0 rfl) ?_
  refine lv_iload_n hx hb dX1_hasItem_1 rfl (lv_at hl 1 rfl) ?_
  refine m_calli (m_runV (i := nm 0 11) (ci := 1) (As := [.int k]) (rest := []) X (k_X1_isNull Γ l L x k) v_X1_isNull ml_X1_26 hw hS rfl rfl rfl rfl hl.1 ⟨Nat.le_of_ble_eq_true rfl, Nat.le_of_ble_eq_true rfl⟩ (Nat.le_of_ble_eq_true rfl) ⟨Nat.le_of_ble_eq_true rfl, Nat.le_of_ble_eq_true rfl⟩ dX1_hasItem_2) hS (fun r_1 L1 M1 H locs hp_1 hw hS => ?_)
  obtain ⟨rfl, e1, e2⟩ := hp_1
  rw [e1, e2] at hw; clear e1 e2
  refine lv_if_ne (tgt := 26) hx hb dX1_hasItem_5 (by decide) (fun c_2 => ?_) (fun c_2 => ?_)
  · skip
    have c_2 := bI_t c_2
    refine lv_iconst (v := 0) hx hb dX1_hasItem_26 (by decide) ?_
    exact m_zret (b := false) X hr hlk hw hS (Nat.le_of_ble_eq_true rfl) (Nat.le_of_ble_eq_true rfl) rfl ⟨⟨_, rfl, fun z => absurd z (by decide)⟩, rfl, rfl⟩ dX1_hasItem_27
  · skip
    have c_2 := bI_f c_2
    obtain ⟨kn, h1kn, h2kn, ekn⟩ := nul_nat c_2
    refine lv_iload_n hx hb dX1_hasItem_8 rfl (lv_at hl 2 rfl) ?_
    refine lv_if_lt (tgt := 26) hx hb dX1_hasItem_9 (by decide) (fun c_3 => ?_) (fun c_3 => ?_)
    · skip
      refine lv_iconst (v := 0) hx hb dX1_hasItem_26 (by decide) ?_
      exact m_zret (b := false) X hr hlk hw hS (Nat.le_of_ble_eq_true rfl) (Nat.le_of_ble_eq_true rfl) rfl ⟨⟨_, rfl, fun z => absurd z (by decide)⟩, rfl, rfl⟩ dX1_hasItem_27
    · skip
      refine lv_iload_n hx hb dX1_hasItem_12 rfl (lv_at hl 2 rfl) ?_
      refine lv_aload_n hx hb dX1_hasItem_13 rfl (lv_at hl 0 rfl) ?_
      refine s_get (a := 0) (b := 11) (ci := 1) X hw rfl rfl gX1 1 (by decide) fl_X1_13 rfl rfl dX1_hasItem_14 ?_
      refine lv_iload_n hx hb dX1_hasItem_17 rfl (lv_at hl 1 rfl) ?_
      refine s_iald (n := 21) (k := kn) X hw rfl ekn (by omega) (by decide) dX1_hasItem_18 ?_
      refine lv_icmp_ge (tgt := 26) hx hb dX1_hasItem_19 (by decide) (fun c_4 => ?_) (fun c_4 => ?_)
      · skip
        refine lv_iconst (v := 0) hx hb dX1_hasItem_26 (by decide) ?_
        exact m_zret (b := false) X hr hlk hw hS (Nat.le_of_ble_eq_true rfl) (Nat.le_of_ble_eq_true rfl) rfl ⟨⟨_, rfl, fun z => absurd z (by decide)⟩, rfl, rfl⟩ dX1_hasItem_27
      · skip
        obtain ⟨wn, hwn, ewn⟩ := len_nat (hI.2.2.2.2.2.1 kn (by omega)) (by assumption) c_4
        refine lv_iconst (v := 1) hx hb dX1_hasItem_22 (by decide) ?_
        refine lv_goto (tgt := 27) hx hb dX1_hasItem_23 (by decide) ?_
        exact m_zret (b := true) X hr hlk hw hS (Nat.le_of_ble_eq_true rfl) (Nat.le_of_ble_eq_true rfl) rfl ⟨⟨_, rfl, fun _ => ⟨kn, wn, h1kn, h2kn, ekn, hwn, ewn⟩⟩, rfl, rfl⟩ dX1_hasItem_27
theorem v_X1_item : mVm yX1_item cX1_item 3 (some .int) 2 := ⟨cd_X1_item, im_X1_item, se_X1_item, ini_X1, by decide, by decide, by decide +kernel⟩
set_option maxHeartbeats 4000000 in
set_option maxRecDepth 100000 in
theorem k_X1_item (Γ : mG) (l : Launch) (L : mI → Nat) (x : CS) (k : Int32) (w : Int32) (hI : CInv x) : mMet Γ l yX1_item cX1_item 3 (some .int) { frames := 2, cells := 0, slots := 0, locals := 43 } [.ref (L (nm 0 11)), .int k, .int w] L (cM Γ L x) (mQi Γ (fun r L1 M1 => L1 = L ∧ M1 = cM Γ L x)) := by
  refine m_start (by decide) (Nat.le_of_ble_eq_true rfl) ?_
  intro p e s m args below meth c A ls X hr hlk hnm hw hS hl
  have hx := X.1.1
  have hb := X.1.2.1
  have hl : lv_has ls 3 [(0, .ref (L (nm 0 11))), (1, .int k), (2, .int w)] := hl
  refine lv_aload_n hx hb dX1_item_0 rfl (lv_at hl 0 rfl) ?_
  refine lv_iload_n hx hb dX1_item_1 rfl (lv_at hl 1 rfl) ?_
  refine lv_iload_n hx hb dX1_item_2 rfl (lv_at hl 2 rfl) ?_
  refine m_calli (m_runV (i := nm 0 11) (ci := 1) (As := [.int k, .int w]) (rest := []) X (k_X1_hasItem Γ l L x k w hI) v_X1_hasItem ml_X1_30 hw hS rfl rfl rfl rfl hl.1 ⟨Nat.le_of_ble_eq_true rfl, Nat.le_of_ble_eq_true rfl⟩ (Nat.le_of_ble_eq_true rfl) ⟨Nat.le_of_ble_eq_true rfl, Nat.le_of_ble_eq_true rfl⟩ dX1_item_3) hS (fun r_1 L1 M1 H locs hp_1 hw hS => ?_)
  obtain ⟨⟨t_1, rfl, ht_1⟩, e1, e2⟩ := hp_1
  rw [e1, e2] at hw; clear e1 e2
  refine lv_if_eq (tgt := 23) hx hb dX1_item_6 (by decide) (fun c_2 => ?_) (fun c_2 => ?_)
  · skip
    have c_2 := bI_f c_2
    refine lv_iconst (v := 0) hx hb dX1_item_23 (by decide) ?_
    exact m_iret X hr hlk hw hS (Nat.le_of_ble_eq_true rfl) (Nat.le_of_ble_eq_true rfl) ⟨rfl, rfl⟩ dX1_item_24
  · skip
    have c_2 := bI_t c_2
    obtain ⟨kn, wn, h1kn, h2kn, ekn, hwn, ewn⟩ := ht_1 c_2
    refine lv_aload_n hx hb dX1_item_9 rfl (lv_at hl 0 rfl) ?_
    refine s_get (a := 0) (b := 11) (ci := 1) X hw rfl rfl gX1 3 (by decide) fl_X1_19 rfl rfl dX1_item_10 ?_
    refine lv_iload_n hx hb dX1_item_13 rfl (lv_at hl 1 rfl) ?_
    refine lv_bipush (v := 30) hx hb dX1_item_14 (by decide) ?_
    refine lv_imul hx hb dX1_item_16 ?_
    refine lv_iload_n hx hb dX1_item_17 rfl (lv_at hl 2 rfl) ?_
    refine lv_iadd hx hb dX1_item_18 ?_
    refine s_iald (n := 630) (k := (kn * 30) + wn) X hw rfl (nadd (a := kn * 30) (b := wn) (nmul (a := kn) (b := 30) ekn rfl) ewn) (by omega) (by decide) dX1_item_19 ?_
    refine lv_goto (tgt := 24) hx hb dX1_item_20 (by decide) ?_
    exact m_iret X hr hlk hw hS (Nat.le_of_ble_eq_true rfl) (Nat.le_of_ble_eq_true rfl) ⟨rfl, rfl⟩ dX1_item_24
theorem v_X1_canHold : mVm yX1_canHold cX1_canHold 3 (some .boolean) 2 := ⟨cd_X1_canHold, im_X1_canHold, se_X1_canHold, ini_X1, by decide, by decide, by decide +kernel⟩
set_option maxHeartbeats 4000000 in
set_option maxRecDepth 100000 in
theorem k_X1_canHold (Γ : mG) (l : Launch) (L : mI → Nat) (x : CS) (k : Int32) (w : Int32) (hI : CInv x) : mMet Γ l yX1_canHold cX1_canHold 3 (some .boolean) { frames := 2, cells := 0, slots := 0, locals := 43 } [.ref (L (nm 0 11)), .int k, .int w] L (cM Γ L x) (mQi Γ (fun r L1 M1 => (∃ t : Bool, r = bI t) ∧ L1 = L ∧ M1 = cM Γ L x)) := by
  refine m_start (by decide) (Nat.le_of_ble_eq_true rfl) ?_
  intro p e s m args below meth c A ls X hr hlk hnm hw hS hl
  have hx := X.1.1
  have hb := X.1.2.1
  have hl : lv_has ls 3 [(0, .ref (L (nm 0 11))), (1, .int k), (2, .int w)] := hl
  refine lv_aload_n hx hb dX1_canHold_0 rfl (lv_at hl 0 rfl) ?_
  refine lv_iload_n hx hb dX1_canHold_1 rfl (lv_at hl 2 rfl) ?_
  refine m_calli (m_runV (i := nm 0 11) (ci := 1) (As := [.int w]) (rest := []) X (k_X1_isNull Γ l L x w) v_X1_isNull ml_X1_26 hw hS rfl rfl rfl rfl hl.1 ⟨Nat.le_of_ble_eq_true rfl, Nat.le_of_ble_eq_true rfl⟩ (Nat.le_of_ble_eq_true rfl) ⟨Nat.le_of_ble_eq_true rfl, Nat.le_of_ble_eq_true rfl⟩ dX1_canHold_2) hS (fun r_1 L1 M1 H locs hp_1 hw hS => ?_)
  obtain ⟨rfl, e1, e2⟩ := hp_1
  rw [e1, e2] at hw; clear e1 e2
  refine lv_if_ne (tgt := 33) hx hb dX1_canHold_5 (by decide) (fun c_2 => ?_) (fun c_2 => ?_)
  · skip
    have c_2 := bI_t c_2
    refine lv_iconst (v := 1) hx hb dX1_canHold_33 (by decide) ?_
    refine lv_goto (tgt := 38) hx hb dX1_canHold_34 (by decide) ?_
    exact m_zret (b := true) X hr hlk hw hS (Nat.le_of_ble_eq_true rfl) (Nat.le_of_ble_eq_true rfl) rfl ⟨⟨_, rfl⟩, rfl, rfl⟩ dX1_canHold_38
  · skip
    have c_2 := bI_f c_2
    refine lv_aload_n hx hb dX1_canHold_8 rfl (lv_at hl 0 rfl) ?_
    refine lv_iload_n hx hb dX1_canHold_9 rfl (lv_at hl 1 rfl) ?_
    refine m_calli (m_runV (i := nm 0 11) (ci := 1) (As := [.int k]) (rest := []) X (k_X1_isNull Γ l L x k) v_X1_isNull ml_X1_26 hw hS rfl rfl rfl rfl hl.1 ⟨Nat.le_of_ble_eq_true rfl, Nat.le_of_ble_eq_true rfl⟩ (Nat.le_of_ble_eq_true rfl) ⟨Nat.le_of_ble_eq_true rfl, Nat.le_of_ble_eq_true rfl⟩ dX1_canHold_10) hS (fun r_3 L1 M1 H locs hp_3 hw hS => ?_)
    obtain ⟨rfl, e1, e2⟩ := hp_3
    rw [e1, e2] at hw; clear e1 e2
    refine lv_if_ne (tgt := 37) hx hb dX1_canHold_13 (by decide) (fun c_4 => ?_) (fun c_4 => ?_)
    · skip
      have c_4 := bI_t c_4
      refine lv_iconst (v := 0) hx hb dX1_canHold_37 (by decide) ?_
      exact m_zret (b := false) X hr hlk hw hS (Nat.le_of_ble_eq_true rfl) (Nat.le_of_ble_eq_true rfl) rfl ⟨⟨_, rfl⟩, rfl, rfl⟩ dX1_canHold_38
    · skip
      have c_4 := bI_f c_4
      obtain ⟨kn, h1kn, h2kn, ekn⟩ := nul_nat c_4
      refine lv_aload_n hx hb dX1_canHold_16 rfl (lv_at hl 0 rfl) ?_
      refine lv_iload_n hx hb dX1_canHold_17 rfl (lv_at hl 2 rfl) ?_
      refine lv_aload_n hx hb dX1_canHold_18 rfl (lv_at hl 0 rfl) ?_
      refine s_get (a := 0) (b := 11) (ci := 1) X hw rfl rfl gX1 0 (by decide) fl_X1_9 rfl rfl dX1_canHold_19 ?_
      refine lv_iload_n hx hb dX1_canHold_22 rfl (lv_at hl 1 rfl) ?_
      refine s_iald (n := 21) (k := kn) X hw rfl ekn (by omega) (by decide) dX1_canHold_23 ?_
      refine lv_bipush (v := 20) hx hb dX1_canHold_24 (by decide) ?_
      refine lv_isub hx hb dX1_canHold_26 ?_
      refine m_calli (m_runV (i := nm 0 11) (ci := 1) (As := [.int w, .int ((x.2.1 0 12 kn) - 20)]) (rest := []) X (k_X1_isOf Γ l L x w ((x.2.1 0 12 kn) - 20) hI) v_X1_isOf ml_X1_42 hw hS rfl rfl rfl rfl hl.1 ⟨Nat.le_of_ble_eq_true rfl, Nat.le_of_ble_eq_true rfl⟩ (Nat.le_of_ble_eq_true rfl) ⟨Nat.le_of_ble_eq_true rfl, Nat.le_of_ble_eq_true rfl⟩ dX1_canHold_27) hS (fun r_5 L1 M1 H locs hp_5 hw hS => ?_)
      obtain ⟨⟨t_5, rfl⟩, e1, e2⟩ := hp_5
      rw [e1, e2] at hw; clear e1 e2
      refine lv_if_eq (tgt := 37) hx hb dX1_canHold_30 (by decide) (fun c_6 => ?_) (fun c_6 => ?_)
      · skip
        have c_6 := bI_f c_6
        refine lv_iconst (v := 0) hx hb dX1_canHold_37 (by decide) ?_
        exact m_zret (b := false) X hr hlk hw hS (Nat.le_of_ble_eq_true rfl) (Nat.le_of_ble_eq_true rfl) rfl ⟨⟨_, rfl⟩, rfl, rfl⟩ dX1_canHold_38
      · skip
        have c_6 := bI_t c_6
        refine lv_iconst (v := 1) hx hb dX1_canHold_33 (by decide) ?_
        refine lv_goto (tgt := 38) hx hb dX1_canHold_34 (by decide) ?_
        exact m_zret (b := true) X hr hlk hw hS (Nat.le_of_ble_eq_true rfl) (Nat.le_of_ble_eq_true rfl) rfl ⟨⟨_, rfl⟩, rfl, rfl⟩ dX1_canHold_38
theorem v_X1_putItem : mVm yX1_putItem cX1_putItem 4 none 3 := ⟨cd_X1_putItem, im_X1_putItem, se_X1_putItem, ini_X1, by decide, by decide, by decide +kernel⟩
set_option maxHeartbeats 4000000 in
set_option maxRecDepth 100000 in
theorem k_X1_putItem (Γ : mG) (l : Launch) (L : mI → Nat) (x : CS) (k : Int32) (w : Int32) (y : Int32) (hI : CInv x) : mMet Γ l yX1_putItem cX1_putItem 4 none { frames := 2, cells := 0, slots := 0, locals := 43 } [.ref (L (nm 0 11)), .int k, .int w, .int y] L (cM Γ L x) (mQv Γ (mKl Γ L x)) := by
  refine m_start (by decide) (Nat.le_of_ble_eq_true rfl) ?_
  intro p e s m args below meth c A ls X hr hlk hnm hw hS hl
  have hx := X.1.1
  have hb := X.1.2.1
  have hl : lv_has ls 4 [(0, .ref (L (nm 0 11))), (1, .int k), (2, .int w), (3, .int y)] := hl
  have hk : kl x x := kl.rf
  refine lv_aload_n hx hb dX1_putItem_0 rfl (lv_at hl 0 rfl) ?_
  refine lv_iload_n hx hb dX1_putItem_1 rfl (lv_at hl 1 rfl) ?_
  refine lv_iload_n hx hb dX1_putItem_2 rfl (lv_at hl 2 rfl) ?_
  refine m_calli (m_runV (i := nm 0 11) (ci := 1) (As := [.int k, .int w]) (rest := []) X (k_X1_hasItem Γ l L x k w hI) v_X1_hasItem ml_X1_30 hw hS rfl rfl rfl rfl hl.1 ⟨Nat.le_of_ble_eq_true rfl, Nat.le_of_ble_eq_true rfl⟩ (Nat.le_of_ble_eq_true rfl) ⟨Nat.le_of_ble_eq_true rfl, Nat.le_of_ble_eq_true rfl⟩ dX1_putItem_3) hS (fun r_1 L1 M1 H locs hp_1 hw hS => ?_)
  obtain ⟨⟨t_1, rfl, ht_1⟩, e1, e2⟩ := hp_1
  rw [e1, e2] at hw; clear e1 e2
  refine lv_if_eq (tgt := 21) hx hb dX1_putItem_6 (by decide) (fun c_2 => ?_) (fun c_2 => ?_)
  · skip
    have c_2 := bI_f c_2
    exact m_vret X hr hlk hw hS (Nat.le_of_ble_eq_true rfl) (Nat.le_of_ble_eq_true rfl) ⟨rfl, _, rfl, hI, hk⟩ dX1_putItem_21
  · skip
    have c_2 := bI_t c_2
    obtain ⟨kn, wn, h1kn, h2kn, ekn, hwn, ewn⟩ := ht_1 c_2
    refine lv_aload_n hx hb dX1_putItem_9 rfl (lv_at hl 0 rfl) ?_
    refine s_get (a := 0) (b := 11) (ci := 1) X hw rfl rfl gX1 3 (by decide) fl_X1_19 rfl rfl dX1_putItem_10 ?_
    refine lv_iload_n hx hb dX1_putItem_13 rfl (lv_at hl 1 rfl) ?_
    refine lv_bipush (v := 30) hx hb dX1_putItem_14 (by decide) ?_
    refine lv_imul hx hb dX1_putItem_16 ?_
    refine lv_iload_n hx hb dX1_putItem_17 rfl (lv_at hl 2 rfl) ?_
    refine lv_iadd hx hb dX1_putItem_18 ?_
    refine lv_iload_n hx hb dX1_putItem_19 rfl (lv_at hl 3 rfl) ?_
    refine s_iast (n := 630) (k := (kn * 30) + wn) (v := y) X hw hS (fun _ => rfl) (nadd (a := kn * 30) (b := wn) (nmul (a := kn) (b := 30) ekn rfl) ewn) (by omega) (by decide) dX1_putItem_20 (fun H locs hw hS => ?_)
    have hI := hI.putV (a := 0) (b := 15) (j := (kn * 30) + wn) (v := y) (by omega)
    have hk := hk.putV (a := 0) (b := 15) (j := (kn * 30) + wn) (v := y) (by omega)
    exact m_vret X hr hlk hw hS (Nat.le_of_ble_eq_true rfl) (Nat.le_of_ble_eq_true rfl) ⟨rfl, _, rfl, hI, hk⟩ dX1_putItem_21
theorem v_X1_putField : mVm yX1_putField cX1_putField 3 none 2 := ⟨cd_X1_putField, im_X1_putField, se_X1_putField, ini_X1, by decide, by decide, by decide +kernel⟩
set_option maxHeartbeats 4000000 in
set_option maxRecDepth 100000 in
theorem k_X1_putField (Γ : mG) (l : Launch) (L : mI → Nat) (x : CS) (k : Int32) (w : Int32) (hI : CInv x) : mMet Γ l yX1_putField cX1_putField 3 none { frames := 1, cells := 0, slots := 0, locals := 21 } [.ref (L (nm 0 11)), .int k, .int w] L (cM Γ L x) (mQv Γ (mKl Γ L x)) := by
  refine m_start (by decide) (Nat.le_of_ble_eq_true rfl) ?_
  intro p e s m args below meth c A ls X hr hlk hnm hw hS hl
  have hx := X.1.1
  have hb := X.1.2.1
  have hl : lv_has ls 3 [(0, .ref (L (nm 0 11))), (1, .int k), (2, .int w)] := hl
  have hk : kl x x := kl.rf
  refine lv_aload_n hx hb dX1_putField_0 rfl (lv_at hl 0 rfl) ?_
  refine lv_iload_n hx hb dX1_putField_1 rfl (lv_at hl 1 rfl) ?_
  refine m_calli (m_runV (i := nm 0 11) (ci := 1) (As := [.int k]) (rest := []) X (k_X1_isNull Γ l L x k) v_X1_isNull ml_X1_26 hw hS rfl rfl rfl rfl hl.1 ⟨Nat.le_of_ble_eq_true rfl, Nat.le_of_ble_eq_true rfl⟩ (Nat.le_of_ble_eq_true rfl) ⟨Nat.le_of_ble_eq_true rfl, Nat.le_of_ble_eq_true rfl⟩ dX1_putField_2) hS (fun r_1 L1 M1 H locs hp_1 hw hS => ?_)
  obtain ⟨rfl, e1, e2⟩ := hp_1
  rw [e1, e2] at hw; clear e1 e2
  refine lv_if_ne (tgt := 15) hx hb dX1_putField_5 (by decide) (fun c_2 => ?_) (fun c_2 => ?_)
  · skip
    have c_2 := bI_t c_2
    exact m_vret X hr hlk hw hS (Nat.le_of_ble_eq_true rfl) (Nat.le_of_ble_eq_true rfl) ⟨rfl, _, rfl, hI, hk⟩ dX1_putField_15
  · skip
    have c_2 := bI_f c_2
    obtain ⟨kn, h1kn, h2kn, ekn⟩ := nul_nat c_2
    refine lv_aload_n hx hb dX1_putField_8 rfl (lv_at hl 0 rfl) ?_
    refine s_get (a := 0) (b := 11) (ci := 1) X hw rfl rfl gX1 2 (by decide) fl_X1_16 rfl rfl dX1_putField_9 ?_
    refine lv_iload_n hx hb dX1_putField_12 rfl (lv_at hl 1 rfl) ?_
    refine lv_iload_n hx hb dX1_putField_13 rfl (lv_at hl 2 rfl) ?_
    refine s_iast (n := 21) (k := kn) (v := w) X hw hS (fun _ => rfl) ekn (by omega) (by decide) dX1_putField_14 (fun H locs hw hS => ?_)
    have hI := hI.putV (a := 0) (b := 14) (j := kn) (v := w) (by omega)
    have hk := hk.putV (a := 0) (b := 14) (j := kn) (v := w) (by omega)
    exact m_vret X hr hlk hw hS (Nat.le_of_ble_eq_true rfl) (Nat.le_of_ble_eq_true rfl) ⟨rfl, _, rfl, hI, hk⟩ dX1_putField_15
theorem v_X1_make : mVm yX1_make cX1_make 4 (some .int) 2 := ⟨cd_X1_make, im_X1_make, se_X1_make, ini_X1, by decide, by decide, by decide +kernel⟩
set_option maxHeartbeats 4000000 in
set_option maxRecDepth 100000 in
theorem k_X1_make (Γ : mG) (l : Launch) (L : mI → Nat) (x : CS) (k : Int32) (w : Int32) (hI : CInv x) : mMet Γ l yX1_make cX1_make 4 (some .int) { frames := 0, cells := 0, slots := 0, locals := 0 } [.ref (L (nm 0 11)), .int k, .int w] L (cM Γ L x) (mQi Γ (fun _ => mKl Γ L x)) := by
  refine m_start (by decide) (Nat.le_of_ble_eq_true rfl) ?_
  intro p e s m args below meth c A ls X hr hlk hnm hw hS hl
  have hx := X.1.1
  have hb := X.1.2.1
  have hl : lv_has ls 4 [(0, .ref (L (nm 0 11))), (1, .int k), (2, .int w)] := hl
  have hk : kl x x := kl.rf
  refine lv_aload_n hx hb dX1_make_0 rfl (lv_at hl 0 rfl) ?_
  refine s_get (a := 0) (b := 11) (ci := 1) X hw rfl rfl gX1 4 (by decide) fl_X1_22 rfl rfl dX1_make_1 ?_
  obtain ⟨z_1, hz_1, ez_1⟩ := hI.2.2.2.2.1
  refine lv_bipush (v := 20) hx hb dX1_make_4 (by decide) ?_
  refine lv_icmp_ge (tgt := 19) hx hb dX1_make_6 (by decide) (fun c_2 => ?_) (fun c_2 => ?_)
  · skip
    have c_2n : z_1 ≥ 20 := ngeT (a := z_1) (b := 20) ez_1 rfl (by omega) (by omega) c_2
    have c_2m : ¬ z_1 < 20 := by omega
    refine lv_iconst (v := 0) hx hb dX1_make_19 (by decide) ?_
    exact m_iret X hr hlk hw hS (Nat.le_of_ble_eq_true rfl) (Nat.le_of_ble_eq_true rfl) ⟨rfl, _, rfl, hI, hk⟩ dX1_make_20
  · skip
    have c_2n : ¬ z_1 ≥ 20 := ngeF (a := z_1) (b := 20) ez_1 rfl (by omega) (by omega) c_2
    have c_2m : z_1 < 20 := by omega
    refine lv_iload_n hx hb dX1_make_9 rfl (lv_at hl 2 rfl) ?_
    refine lv_if_lt (tgt := 19) hx hb dX1_make_10 (by decide) (fun c_3 => ?_) (fun c_3 => ?_)
    · skip
      refine lv_iconst (v := 0) hx hb dX1_make_19 (by decide) ?_
      exact m_iret X hr hlk hw hS (Nat.le_of_ble_eq_true rfl) (Nat.le_of_ble_eq_true rfl) ⟨rfl, _, rfl, hI, hk⟩ dX1_make_20
    · skip
      refine lv_iload_n hx hb dX1_make_13 rfl (lv_at hl 2 rfl) ?_
      refine lv_bipush (v := 30) hx hb dX1_make_14 (by decide) ?_
      refine lv_icmp_le (tgt := 21) hx hb dX1_make_16 (by decide) (fun c_4 => ?_) (fun c_4 => ?_)
      · skip
        refine lv_aload_n hx hb dX1_make_21 rfl (lv_at hl 0 rfl) ?_
        refine lv_dup hx hb dX1_make_22 rfl ?_
        refine s_get (a := 0) (b := 11) (ci := 1) X hw rfl rfl gX1 4 (by decide) fl_X1_22 rfl rfl dX1_make_23 ?_
        refine lv_iconst (v := 1) hx hb dX1_make_26 (by decide) ?_
        refine lv_iadd hx hb dX1_make_27 ?_
        refine lv_topi (fun v_5 ev_5 => ?_)
        obtain rfl : v_5 = nI (z_1 + 1) := ev_5.trans (nadd (a := z_1) (b := 1) ez_1 rfl)
        clear ev_5
        refine s_put (a := 0) (b := 11) (v := nI (z_1 + 1)) (ci := 1) (ty := tyX1 4) X hw hS 4 rfl rfl rfl gX1 tyX1 tyX1_ok nmX1 (by decide) fl_X1_22 rfl rfl (tyX1_ok 4 (by decide)) rfl rfl (show 4 < 5 by decide) dX1_make_28 (fun H locs hw hS => ?_)
        have ez_6 : (tS x 0 11 4 (nI (z_1 + 1))).1 0 11 4 = nI (z_1 + 1) := tS_self.trans rfl
        have hI := hI.made (v := nI (z_1 + 1)) ⟨z_1 + 1, by omega, rfl⟩
        have hk := hk.putS (a := 0) (b := 11) (k := 4) (v := nI (z_1 + 1)) (by omega)
        refine lv_aload_n hx hb dX1_make_31 rfl (lv_at hl 0 rfl) ?_
        refine s_get (a := 0) (b := 11) (ci := 1) X hw rfl rfl gX1 0 (by decide) fl_X1_9 rfl rfl dX1_make_32 ?_
        refine lv_aload_n hx hb dX1_make_35 rfl (lv_at hl 0 rfl) ?_
        refine s_get (a := 0) (b := 11) (ci := 1) X hw rfl rfl gX1 4 (by decide) fl_X1_22 rfl rfl dX1_make_36 ?_
        refine lv_iload_n hx hb dX1_make_39 rfl (lv_at hl 1 rfl) ?_
        refine s_iast (n := 21) (k := z_1 + 1) (v := k) X hw hS (fun _ => rfl) ez_6 (by omega) (by decide) dX1_make_40 (fun H locs hw hS => ?_)
        have hI := hI.putV (a := 0) (b := 12) (j := z_1 + 1) (v := k) (by omega)
        have hk := hk.putV (a := 0) (b := 12) (j := z_1 + 1) (v := k) (by omega)
        refine lv_aload_n hx hb dX1_make_41 rfl (lv_at hl 0 rfl) ?_
        refine s_get (a := 0) (b := 11) (ci := 1) X hw rfl rfl gX1 1 (by decide) fl_X1_13 rfl rfl dX1_make_42 ?_
        refine lv_aload_n hx hb dX1_make_45 rfl (lv_at hl 0 rfl) ?_
        refine s_get (a := 0) (b := 11) (ci := 1) X hw rfl rfl gX1 4 (by decide) fl_X1_22 rfl rfl dX1_make_46 ?_
        refine lv_iload_n hx hb dX1_make_49 rfl (lv_at hl 2 rfl) ?_
        refine s_iast (n := 21) (k := z_1 + 1) (v := w) X hw hS (fun _ => rfl) ez_6 (by omega) (by decide) dX1_make_50 (fun H locs hw hS => ?_)
        have hI := hI.len (j := z_1 + 1) (v := w) (le30 (by assumption))
        have hk := hk.putV (a := 0) (b := 13) (j := z_1 + 1) (v := w) (by omega)
        refine lv_aload_n hx hb dX1_make_51 rfl (lv_at hl 0 rfl) ?_
        refine s_get (a := 0) (b := 11) (ci := 1) X hw rfl rfl gX1 2 (by decide) fl_X1_16 rfl rfl dX1_make_52 ?_
        refine lv_aload_n hx hb dX1_make_55 rfl (lv_at hl 0 rfl) ?_
        refine s_get (a := 0) (b := 11) (ci := 1) X hw rfl rfl gX1 4 (by decide) fl_X1_22 rfl rfl dX1_make_56 ?_
        refine lv_iconst (v := 0) hx hb dX1_make_59 (by decide) ?_
        refine s_iast (n := 21) (k := z_1 + 1) (v := 0) X hw hS (fun _ => rfl) ez_6 (by omega) (by decide) dX1_make_60 (fun H locs hw hS => ?_)
        have hI := hI.putV (a := 0) (b := 14) (j := z_1 + 1) (v := 0) (by omega)
        have hk := hk.putV (a := 0) (b := 14) (j := z_1 + 1) (v := 0) (by omega)
        refine lv_iconst (v := 0) hx hb dX1_make_61 (by decide) ?_
        refine lv_istore_n (lv' := [(3, .int 0), (0, .ref (L (nm 0 11))), (1, .int k), (2, .int w)]) hx hb dX1_make_62 rfl hl (by decide) rfl (fun ls hl => ?_)
        have KL : ∀ (n : Nat) (t : Nat) (j : Int32) (y : CS) (H : Heap) (locs : List Loc) (ls : Array Slot), t + n = 30 → j = nI t → CInv y → kl x y → y.1 0 11 4 = nI (z_1 + 1) → mW Γ.1 vwCl A L (cM Γ L (y)) H → va_S A s.heap H locs → lv_has ls 4 [(3, .int j), (0, .ref (L (nm 0 11))), (1, .int k), (2, .int w)] → W p l e { frames := 0, cells := 0, slots := 0, locals := 0 } s m args below meth c H locs 0 0 (MQ below (mQi Γ (fun _ => mKl Γ L x) A) args s 0 0 A) (F0 m 63 ls []) := by
          intro n
          induction n with
          | zero =>
            intro t j y H locs ls f0 f1 f2 f3 f4 hw hS hl
            have hI := f2
            have hk := f3
            refine lv_iload_n hx hb dX1_make_63 rfl (lv_at hl 0 rfl) ?_
            refine lv_bipush (v := 30) hx hb dX1_make_64 (by decide) ?_
            refine lv_icmp_ge (tgt := 90) hx hb dX1_make_66 (by decide) (fun c_7 => ?_) (fun c_7 => ?_)
            · skip
              have c_7n : t ≥ 30 := ngeT (a := t) (b := 30) f1 rfl (by omega) (by omega) c_7
              have c_7m : ¬ t < 30 := by omega
              refine lv_aload_n hx hb dX1_make_90 rfl (lv_at hl 1 rfl) ?_
              refine s_get (a := 0) (b := 11) (ci := 1) X hw rfl rfl gX1 4 (by decide) fl_X1_22 rfl rfl dX1_make_91 ?_
              refine lv_topi (fun v_8 ev_8 => ?_)
              obtain rfl : v_8 = nI (z_1 + 1) := ev_8.trans f4
              clear ev_8
              exact m_iret X hr hlk hw hS (Nat.le_of_ble_eq_true rfl) (Nat.le_of_ble_eq_true rfl) ⟨rfl, _, rfl, hI, hk⟩ dX1_make_94
            · skip
              have c_7n : ¬ t ≥ 30 := ngeF (a := t) (b := 30) f1 rfl (by omega) (by omega) c_7
              have c_7m : t < 30 := by omega
              refine lv_aload_n hx hb dX1_make_69 rfl (lv_at hl 1 rfl) ?_
              refine s_get (a := 0) (b := 11) (ci := 1) X hw rfl rfl gX1 3 (by decide) fl_X1_19 rfl rfl dX1_make_70 ?_
              refine lv_aload_n hx hb dX1_make_73 rfl (lv_at hl 1 rfl) ?_
              refine s_get (a := 0) (b := 11) (ci := 1) X hw rfl rfl gX1 4 (by decide) fl_X1_22 rfl rfl dX1_make_74 ?_
              refine lv_bipush (v := 30) hx hb dX1_make_77 (by decide) ?_
              refine lv_imul hx hb dX1_make_79 ?_
              refine lv_iload_n hx hb dX1_make_80 rfl (lv_at hl 0 rfl) ?_
              refine lv_iadd hx hb dX1_make_81 ?_
              refine lv_iconst (v := 0) hx hb dX1_make_82 (by decide) ?_
              refine s_iast (n := 630) (k := ((z_1 + 1) * 30) + t) (v := 0) X hw hS (fun _ => rfl) (nadd (a := (z_1 + 1) * 30) (b := t) (nmul (a := z_1 + 1) (b := 30) f4 rfl) f1) (by omega) (by decide) dX1_make_83 (fun H locs hw hS => ?_)
              have hI := hI.putV (a := 0) (b := 15) (j := ((z_1 + 1) * 30) + t) (v := 0) (by omega)
              have hk := hk.putV (a := 0) (b := 15) (j := ((z_1 + 1) * 30) + t) (v := 0) (by omega)
              refine lv_iinc (v := j + 1) (lv' := [(3, .int (j + 1)), (0, .ref (L (nm 0 11))), (1, .int k), (2, .int w)]) hx hb dX1_make_84 hl (k := 0) rfl rfl (by decide) rfl (fun ls hl => ?_)
              refine lv_goto (tgt := 63) hx hb dX1_make_87 (by decide) ?_
              exact (by omega : False).elim
          | succ n ih =>
            intro t j y H locs ls f0 f1 f2 f3 f4 hw hS hl
            have hI := f2
            have hk := f3
            refine lv_iload_n hx hb dX1_make_63 rfl (lv_at hl 0 rfl) ?_
            refine lv_bipush (v := 30) hx hb dX1_make_64 (by decide) ?_
            refine lv_icmp_ge (tgt := 90) hx hb dX1_make_66 (by decide) (fun c_9 => ?_) (fun c_9 => ?_)
            · skip
              have c_9n : t ≥ 30 := ngeT (a := t) (b := 30) f1 rfl (by omega) (by omega) c_9
              have c_9m : ¬ t < 30 := by omega
              refine lv_aload_n hx hb dX1_make_90 rfl (lv_at hl 1 rfl) ?_
              refine s_get (a := 0) (b := 11) (ci := 1) X hw rfl rfl gX1 4 (by decide) fl_X1_22 rfl rfl dX1_make_91 ?_
              refine lv_topi (fun v_10 ev_10 => ?_)
              obtain rfl : v_10 = nI (z_1 + 1) := ev_10.trans f4
              clear ev_10
              exact m_iret X hr hlk hw hS (Nat.le_of_ble_eq_true rfl) (Nat.le_of_ble_eq_true rfl) ⟨rfl, _, rfl, hI, hk⟩ dX1_make_94
            · skip
              have c_9n : ¬ t ≥ 30 := ngeF (a := t) (b := 30) f1 rfl (by omega) (by omega) c_9
              have c_9m : t < 30 := by omega
              refine lv_aload_n hx hb dX1_make_69 rfl (lv_at hl 1 rfl) ?_
              refine s_get (a := 0) (b := 11) (ci := 1) X hw rfl rfl gX1 3 (by decide) fl_X1_19 rfl rfl dX1_make_70 ?_
              refine lv_aload_n hx hb dX1_make_73 rfl (lv_at hl 1 rfl) ?_
              refine s_get (a := 0) (b := 11) (ci := 1) X hw rfl rfl gX1 4 (by decide) fl_X1_22 rfl rfl dX1_make_74 ?_
              refine lv_bipush (v := 30) hx hb dX1_make_77 (by decide) ?_
              refine lv_imul hx hb dX1_make_79 ?_
              refine lv_iload_n hx hb dX1_make_80 rfl (lv_at hl 0 rfl) ?_
              refine lv_iadd hx hb dX1_make_81 ?_
              refine lv_iconst (v := 0) hx hb dX1_make_82 (by decide) ?_
              refine s_iast (n := 630) (k := ((z_1 + 1) * 30) + t) (v := 0) X hw hS (fun _ => rfl) (nadd (a := (z_1 + 1) * 30) (b := t) (nmul (a := z_1 + 1) (b := 30) f4 rfl) f1) (by omega) (by decide) dX1_make_83 (fun H locs hw hS => ?_)
              have hI := hI.putV (a := 0) (b := 15) (j := ((z_1 + 1) * 30) + t) (v := 0) (by omega)
              have hk := hk.putV (a := 0) (b := 15) (j := ((z_1 + 1) * 30) + t) (v := 0) (by omega)
              refine lv_iinc (v := j + 1) (lv' := [(3, .int (j + 1)), (0, .ref (L (nm 0 11))), (1, .int k), (2, .int w)]) hx hb dX1_make_84 hl (k := 0) rfl rfl (by decide) rfl (fun ls hl => ?_)
              refine lv_goto (tgt := 63) hx hb dX1_make_87 (by decide) ?_
              exact ih (t + 1) _ _ _ _ ls (by omega) (nadd (a := t) (b := 1) f1 rfl) hI hk f4 hw hS (lv_sub hl [0, 1, 2, 3] rfl)
        exact KL 30 0 _ _ _ _ ls rfl rfl hI hk ez_6 hw hS (lv_sub hl [0, 1, 2, 3] rfl)
      · skip
        refine lv_iconst (v := 0) hx hb dX1_make_19 (by decide) ?_
        exact m_iret X hr hlk hw hS (Nat.le_of_ble_eq_true rfl) (Nat.le_of_ble_eq_true rfl) ⟨rfl, _, rfl, hI, hk⟩ dX1_make_20
theorem v_X4_push : mVm yX4_push cX4_push 3 none 1 := ⟨cd_X4_push, im_X4_push, se_X4_push, ini_X4, by decide, by decide, by decide +kernel⟩
set_option maxHeartbeats 4000000 in
set_option maxRecDepth 100000 in
theorem k_X4_push (Γ : mG) (l : Launch) (L : mI → Nat) (x : CS) (v : Int64) (hI : CInv x) : mMet Γ l yX4_push cX4_push 3 none { frames := 0, cells := 0, slots := 0, locals := 0 } [.ref (L (nm 0 10)), .long v] L (cM Γ L x) (mQv Γ (mKl Γ L x)) := by
  refine m_start (by decide) (Nat.le_of_ble_eq_true rfl) ?_
  intro p e s m args below meth c A ls X hr hlk hnm hw hS hl
  have hx := X.1.1
  have hb := X.1.2.1
  have hl : lv_has ls 3 [(0, .ref (L (nm 0 10))), (1, .long v)] := hl
  have hk : kl x x := kl.rf
  refine lv_aload_n hx hb dX4_push_0 rfl (lv_at hl 0 rfl) ?_
  refine s_get (a := 0) (b := 10) (ci := 3) X hw rfl rfl gX4 3 (by decide) fl_X4_30 rfl rfl dX4_push_1 ?_
  refine lv_aload_n hx hb dX4_push_4 rfl (lv_at hl 0 rfl) ?_
  refine s_get (a := 0) (b := 10) (ci := 3) X hw rfl rfl gX4 6 (by decide) fl_X4_50 rfl rfl dX4_push_5 ?_
  obtain ⟨z_1, hz_1, ez_1⟩ := hI.2.2.2.1
  refine s_iald (n := 8) (k := z_1) X hw rfl ez_1 (by omega) (by decide) dX4_push_8 ?_
  refine lv_if_lt (tgt := 62) hx hb dX4_push_9 (by decide) (fun c_2 => ?_) (fun c_2 => ?_)
  · skip
    exact m_vret X hr hlk hw hS (Nat.le_of_ble_eq_true rfl) (Nat.le_of_ble_eq_true rfl) ⟨rfl, _, rfl, hI, hk⟩ dX4_push_62
  · skip
    refine lv_aload_n hx hb dX4_push_12 rfl (lv_at hl 0 rfl) ?_
    refine s_get (a := 0) (b := 10) (ci := 3) X hw rfl rfl gX4 3 (by decide) fl_X4_30 rfl rfl dX4_push_13 ?_
    refine lv_aload_n hx hb dX4_push_16 rfl (lv_at hl 0 rfl) ?_
    refine s_get (a := 0) (b := 10) (ci := 3) X hw rfl rfl gX4 6 (by decide) fl_X4_50 rfl rfl dX4_push_17 ?_
    refine s_iald (n := 8) (k := z_1) X hw rfl ez_1 (by omega) (by decide) dX4_push_20 ?_
    refine lv_bipush (v := 8) hx hb dX4_push_21 (by decide) ?_
    refine lv_icmp_ge (tgt := 62) hx hb dX4_push_23 (by decide) (fun c_3 => ?_) (fun c_3 => ?_)
    · skip
      exact m_vret X hr hlk hw hS (Nat.le_of_ble_eq_true rfl) (Nat.le_of_ble_eq_true rfl) ⟨rfl, _, rfl, hI, hk⟩ dX4_push_62
    · skip
      obtain ⟨dn_, hdn, edn⟩ := nat_lt8 (by assumption) (Int32.not_le.mp c_3)
      refine lv_aload_n hx hb dX4_push_26 rfl (lv_at hl 0 rfl) ?_
      refine s_get (a := 0) (b := 10) (ci := 3) X hw rfl rfl gX4 5 (by decide) fl_X4_39 rfl rfl dX4_push_27 ?_
      refine lv_aload_n hx hb dX4_push_30 rfl (lv_at hl 0 rfl) ?_
      refine s_get (a := 0) (b := 10) (ci := 3) X hw rfl rfl gX4 6 (by decide) fl_X4_50 rfl rfl dX4_push_31 ?_
      refine lv_bipush (v := 8) hx hb dX4_push_34 (by decide) ?_
      refine lv_imul hx hb dX4_push_36 ?_
      refine lv_aload_n hx hb dX4_push_37 rfl (lv_at hl 0 rfl) ?_
      refine s_get (a := 0) (b := 10) (ci := 3) X hw rfl rfl gX4 3 (by decide) fl_X4_30 rfl rfl dX4_push_38 ?_
      refine lv_aload_n hx hb dX4_push_41 rfl (lv_at hl 0 rfl) ?_
      refine s_get (a := 0) (b := 10) (ci := 3) X hw rfl rfl gX4 6 (by decide) fl_X4_50 rfl rfl dX4_push_42 ?_
      refine s_iald (n := 8) (k := z_1) X hw rfl ez_1 (by omega) (by decide) dX4_push_45 ?_
      refine lv_iadd hx hb dX4_push_46 ?_
      refine lv_lload_n hx hb dX4_push_47 rfl (lv_at hl 1 rfl) ?_
      refine s_last (n := 64) (k := (z_1 * 8) + dn_) (v := v) X hw hS (fun _ => rfl) (nadd (a := z_1 * 8) (b := dn_) (nmul (a := z_1) (b := 8) ez_1 rfl) edn) (by omega) (by decide) dX4_push_48 (fun H locs hw hS => ?_)
      have hI := CInv.putJ (a := 0) (b := 20) (j := (z_1 * 8) + dn_) (v := v) hI
      have hk := hk.putJ (a := 0) (b := 20) (j := (z_1 * 8) + dn_) (v := v) (by omega)
      refine lv_aload_n hx hb dX4_push_49 rfl (lv_at hl 0 rfl) ?_
      refine s_get (a := 0) (b := 10) (ci := 3) X hw rfl rfl gX4 3 (by decide) fl_X4_30 rfl rfl dX4_push_50 ?_
      refine lv_aload_n hx hb dX4_push_53 rfl (lv_at hl 0 rfl) ?_
      refine s_get (a := 0) (b := 10) (ci := 3) X hw rfl rfl gX4 6 (by decide) fl_X4_50 rfl rfl dX4_push_54 ?_
      refine lv_dup2_11 hx hb dX4_push_57 rfl rfl ?_
      refine s_iald (n := 8) (k := z_1) X hw rfl ez_1 (by omega) (by decide) dX4_push_58 ?_
      refine lv_iconst (v := 1) hx hb dX4_push_59 (by decide) ?_
      refine lv_iadd hx hb dX4_push_60 ?_
      refine s_iast (n := 8) (k := z_1) (v := ((tJ x 0 20 ((z_1 * 8) + dn_) v).2.1 0 18 z_1) + 1) X hw hS (fun _ => rfl) ez_1 (by omega) (by decide) dX4_push_61 (fun H locs hw hS => ?_)
      have hI := hI.putV (a := 0) (b := 18) (j := z_1) (v := ((tJ x 0 20 ((z_1 * 8) + dn_) v).2.1 0 18 z_1) + 1) (by omega)
      have hk := hk.putV (a := 0) (b := 18) (j := z_1) (v := ((tJ x 0 20 ((z_1 * 8) + dn_) v).2.1 0 18 z_1) + 1) (by omega)
      exact m_vret X hr hlk hw hS (Nat.le_of_ble_eq_true rfl) (Nat.le_of_ble_eq_true rfl) ⟨rfl, _, rfl, hI, hk⟩ dX4_push_62
theorem v_X4_pop : mVm yX4_pop cX4_pop 1 (some .long) 0 := ⟨cd_X4_pop, im_X4_pop, se_X4_pop, ini_X4, by decide, by decide, by decide +kernel⟩
set_option maxHeartbeats 4000000 in
set_option maxRecDepth 100000 in
theorem k_X4_pop (Γ : mG) (l : Launch) (L : mI → Nat) (x : CS)  (hI : CInv x) : mMet Γ l yX4_pop cX4_pop 1 (some .long) { frames := 0, cells := 0, slots := 0, locals := 0 } [.ref (L (nm 0 10))] L (cM Γ L x) (mQl Γ (fun _ => mKl Γ L x)) := by
  refine m_start (by decide) (Nat.le_of_ble_eq_true rfl) ?_
  intro p e s m args below meth c A ls X hr hlk hnm hw hS hl
  have hx := X.1.1
  have hb := X.1.2.1
  have hl : lv_has ls 1 [(0, .ref (L (nm 0 10)))] := hl
  have hk : kl x x := kl.rf
  refine lv_aload_n hx hb dX4_pop_0 rfl (lv_at hl 0 rfl) ?_
  refine s_get (a := 0) (b := 10) (ci := 3) X hw rfl rfl gX4 3 (by decide) fl_X4_30 rfl rfl dX4_pop_1 ?_
  refine lv_aload_n hx hb dX4_pop_4 rfl (lv_at hl 0 rfl) ?_
  refine s_get (a := 0) (b := 10) (ci := 3) X hw rfl rfl gX4 6 (by decide) fl_X4_50 rfl rfl dX4_pop_5 ?_
  obtain ⟨z_1, hz_1, ez_1⟩ := hI.2.2.2.1
  refine s_iald (n := 8) (k := z_1) X hw rfl ez_1 (by omega) (by decide) dX4_pop_8 ?_
  refine lv_if_le (tgt := 26) hx hb dX4_pop_9 (by decide) (fun c_2 => ?_) (fun c_2 => ?_)
  · skip
    refine lv_lconst (v := 0) hx hb dX4_pop_26 (by decide) ?_
    exact m_lret X hr hlk hw hS (Nat.le_of_ble_eq_true rfl) (Nat.le_of_ble_eq_true rfl) ⟨rfl, _, rfl, hI, hk⟩ dX4_pop_27
  · skip
    refine lv_aload_n hx hb dX4_pop_12 rfl (lv_at hl 0 rfl) ?_
    refine s_get (a := 0) (b := 10) (ci := 3) X hw rfl rfl gX4 3 (by decide) fl_X4_30 rfl rfl dX4_pop_13 ?_
    refine lv_aload_n hx hb dX4_pop_16 rfl (lv_at hl 0 rfl) ?_
    refine s_get (a := 0) (b := 10) (ci := 3) X hw rfl rfl gX4 6 (by decide) fl_X4_50 rfl rfl dX4_pop_17 ?_
    refine s_iald (n := 8) (k := z_1) X hw rfl ez_1 (by omega) (by decide) dX4_pop_20 ?_
    refine lv_bipush (v := 8) hx hb dX4_pop_21 (by decide) ?_
    refine lv_icmp_le (tgt := 28) hx hb dX4_pop_23 (by decide) (fun c_3 => ?_) (fun c_3 => ?_)
    · skip
      obtain ⟨dn_, h1dn, h2dn, edn⟩ := nat_18 (by assumption) c_3
      refine lv_aload_n hx hb dX4_pop_28 rfl (lv_at hl 0 rfl) ?_
      refine s_get (a := 0) (b := 10) (ci := 3) X hw rfl rfl gX4 3 (by decide) fl_X4_30 rfl rfl dX4_pop_29 ?_
      refine lv_aload_n hx hb dX4_pop_32 rfl (lv_at hl 0 rfl) ?_
      refine s_get (a := 0) (b := 10) (ci := 3) X hw rfl rfl gX4 6 (by decide) fl_X4_50 rfl rfl dX4_pop_33 ?_
      refine lv_dup2_11 hx hb dX4_pop_36 rfl rfl ?_
      refine s_iald (n := 8) (k := z_1) X hw rfl ez_1 (by omega) (by decide) dX4_pop_37 ?_
      refine lv_iconst (v := 1) hx hb dX4_pop_38 (by decide) ?_
      refine lv_isub hx hb dX4_pop_39 ?_
      refine s_iast (n := 8) (k := z_1) (v := (x.2.1 0 18 z_1) - 1) X hw hS (fun _ => rfl) ez_1 (by omega) (by decide) dX4_pop_40 (fun H locs hw hS => ?_)
      have hI := hI.putV (a := 0) (b := 18) (j := z_1) (v := (x.2.1 0 18 z_1) - 1) (by omega)
      have hk := hk.putV (a := 0) (b := 18) (j := z_1) (v := (x.2.1 0 18 z_1) - 1) (by omega)
      have ew_4 : (tV x 0 18 z_1 ((x.2.1 0 18 z_1) - 1)).2.1 0 18 z_1 = nI (dn_ - 1) := tV_self.trans (nsub (a := dn_) (b := 1) (by omega) edn rfl)
      refine lv_aload_n hx hb dX4_pop_41 rfl (lv_at hl 0 rfl) ?_
      refine s_get (a := 0) (b := 10) (ci := 3) X hw rfl rfl gX4 5 (by decide) fl_X4_39 rfl rfl dX4_pop_42 ?_
      refine lv_aload_n hx hb dX4_pop_45 rfl (lv_at hl 0 rfl) ?_
      refine s_get (a := 0) (b := 10) (ci := 3) X hw rfl rfl gX4 6 (by decide) fl_X4_50 rfl rfl dX4_pop_46 ?_
      refine lv_bipush (v := 8) hx hb dX4_pop_49 (by decide) ?_
      refine lv_imul hx hb dX4_pop_51 ?_
      refine lv_aload_n hx hb dX4_pop_52 rfl (lv_at hl 0 rfl) ?_
      refine s_get (a := 0) (b := 10) (ci := 3) X hw rfl rfl gX4 3 (by decide) fl_X4_30 rfl rfl dX4_pop_53 ?_
      refine lv_aload_n hx hb dX4_pop_56 rfl (lv_at hl 0 rfl) ?_
      refine s_get (a := 0) (b := 10) (ci := 3) X hw rfl rfl gX4 6 (by decide) fl_X4_50 rfl rfl dX4_pop_57 ?_
      refine s_iald (n := 8) (k := z_1) X hw rfl ez_1 (by omega) (by decide) dX4_pop_60 ?_
      refine lv_iadd hx hb dX4_pop_61 ?_
      refine s_lald (n := 64) (k := (z_1 * 8) + (dn_ - 1)) X hw rfl (nadd (a := z_1 * 8) (b := dn_ - 1) (nmul (a := z_1) (b := 8) ez_1 rfl) ew_4) (by omega) (by decide) dX4_pop_62 ?_
      exact m_lret X hr hlk hw hS (Nat.le_of_ble_eq_true rfl) (Nat.le_of_ble_eq_true rfl) ⟨rfl, _, rfl, hI, hk⟩ dX4_pop_63
    · skip
      refine lv_lconst (v := 0) hx hb dX4_pop_26 (by decide) ?_
      exact m_lret X hr hlk hw hS (Nat.le_of_ble_eq_true rfl) (Nat.le_of_ble_eq_true rfl) ⟨rfl, _, rfl, hI, hk⟩ dX4_pop_27
theorem v_X4_popInt : mVm yX4_popInt cX4_popInt 1 (some .int) 0 := ⟨cd_X4_popInt, im_X4_popInt, se_X4_popInt, ini_X4, by decide, by decide, by decide +kernel⟩
set_option maxHeartbeats 4000000 in
set_option maxRecDepth 100000 in
theorem k_X4_popInt (Γ : mG) (l : Launch) (L : mI → Nat) (x : CS)  (hI : CInv x) : mMet Γ l yX4_popInt cX4_popInt 1 (some .int) { frames := 1, cells := 0, slots := 0, locals := 20 } [.ref (L (nm 0 10))] L (cM Γ L x) (mQi Γ (fun _ => mKl Γ L x)) := by
  refine m_start (by decide) (Nat.le_of_ble_eq_true rfl) ?_
  intro p e s m args below meth c A ls X hr hlk hnm hw hS hl
  have hx := X.1.1
  have hb := X.1.2.1
  have hl : lv_has ls 1 [(0, .ref (L (nm 0 10)))] := hl
  have hk : kl x x := kl.rf
  refine lv_aload_n hx hb dX4_popInt_0 rfl (lv_at hl 0 rfl) ?_
  refine m_calll (m_runV (i := nm 0 10) (ci := 3) (As := []) (rest := []) X (k_X4_pop Γ l L x  hI) v_X4_pop ml_X4_116 hw hS rfl rfl rfl rfl hl.1 ⟨Nat.le_of_ble_eq_true rfl, Nat.le_of_ble_eq_true rfl⟩ (Nat.le_of_ble_eq_true rfl) ⟨Nat.le_of_ble_eq_true rfl, Nat.le_of_ble_eq_true rfl⟩ dX4_popInt_1) hS (fun r_1 L1 M1 H locs hp_1 hw hS => ?_)
  obtain ⟨e1, c_1, e2, hI_1, hk_1⟩ := hp_1
  rw [e1, e2] at hw; clear e1 e2
  have hk := hk.tr hk_1
  have hI := hI_1
  refine lv_l2i (v := r_1.toInt32) hx hb dX4_popInt_4 rfl ?_
  exact m_iret X hr hlk hw hS (Nat.le_of_ble_eq_true rfl) (Nat.le_of_ble_eq_true rfl) ⟨rfl, _, rfl, hI, hk⟩ dX4_popInt_5
theorem v_X4_pushLong : mVm yX4_pushLong cX4_pushLong 3 none 1 := ⟨cd_X4_pushLong, im_X4_pushLong, se_X4_pushLong, ini_X4, by decide, by decide, by decide +kernel⟩
set_option maxHeartbeats 4000000 in
set_option maxRecDepth 100000 in
theorem k_X4_pushLong (Γ : mG) (l : Launch) (L : mI → Nat) (x : CS) (v : Int64) (hI : CInv x) : mMet Γ l yX4_pushLong cX4_pushLong 3 none { frames := 1, cells := 0, slots := 0, locals := 22 } [.ref (L (nm 0 10)), .long v] L (cM Γ L x) (mQv Γ (mKl Γ L x)) := by
  refine m_start (by decide) (Nat.le_of_ble_eq_true rfl) ?_
  intro p e s m args below meth c A ls X hr hlk hnm hw hS hl
  have hx := X.1.1
  have hb := X.1.2.1
  have hl : lv_has ls 3 [(0, .ref (L (nm 0 10))), (1, .long v)] := hl
  have hk : kl x x := kl.rf
  refine lv_aload_n hx hb dX4_pushLong_0 rfl (lv_at hl 0 rfl) ?_
  refine lv_lload_n hx hb dX4_pushLong_1 rfl (lv_at hl 1 rfl) ?_
  refine m_callv (m_runV (i := nm 0 10) (ci := 3) (As := [.long v]) (rest := []) X (k_X4_push Γ l L x v hI) v_X4_push ml_X4_112 hw hS rfl rfl rfl rfl hl.1 ⟨Nat.le_of_ble_eq_true rfl, Nat.le_of_ble_eq_true rfl⟩ (Nat.le_of_ble_eq_true rfl) ⟨Nat.le_of_ble_eq_true rfl, Nat.le_of_ble_eq_true rfl⟩ dX4_pushLong_2) hS (fun L1 M1 H locs hp_1 hw hS => ?_)
  obtain ⟨e1, c_1, e2, hI_1, hk_1⟩ := hp_1
  rw [e1, e2] at hw; clear e1 e2
  have hk := hk.tr hk_1
  have hI := hI_1
  refine lv_aload_n hx hb dX4_pushLong_5 rfl (lv_at hl 0 rfl) ?_
  refine lv_lconst (v := 0) hx hb dX4_pushLong_6 (by decide) ?_
  refine m_callv (m_runV (i := nm 0 10) (ci := 3) (As := [.long 0]) (rest := []) X (k_X4_push Γ l L c_1 0 hI) v_X4_push ml_X4_112 hw hS rfl rfl rfl rfl hl.1 ⟨Nat.le_of_ble_eq_true rfl, Nat.le_of_ble_eq_true rfl⟩ (Nat.le_of_ble_eq_true rfl) ⟨Nat.le_of_ble_eq_true rfl, Nat.le_of_ble_eq_true rfl⟩ dX4_pushLong_7) hS (fun L1 M1 H locs hp_2 hw hS => ?_)
  obtain ⟨e1, c_2, e2, hI_2, hk_2⟩ := hp_2
  rw [e1, e2] at hw; clear e1 e2
  have hk := hk.tr hk_2
  have hI := hI_2
  exact m_vret X hr hlk hw hS (Nat.le_of_ble_eq_true rfl) (Nat.le_of_ble_eq_true rfl) ⟨rfl, _, rfl, hI, hk⟩ dX4_pushLong_10
theorem v_X4_popLong : mVm yX4_popLong cX4_popLong 1 (some .long) 0 := ⟨cd_X4_popLong, im_X4_popLong, se_X4_popLong, ini_X4, by decide, by decide, by decide +kernel⟩
set_option maxHeartbeats 4000000 in
set_option maxRecDepth 100000 in
theorem k_X4_popLong (Γ : mG) (l : Launch) (L : mI → Nat) (x : CS)  (hI : CInv x) : mMet Γ l yX4_popLong cX4_popLong 1 (some .long) { frames := 1, cells := 0, slots := 0, locals := 20 } [.ref (L (nm 0 10))] L (cM Γ L x) (mQl Γ (fun _ => mKl Γ L x)) := by
  refine m_start (by decide) (Nat.le_of_ble_eq_true rfl) ?_
  intro p e s m args below meth c A ls X hr hlk hnm hw hS hl
  have hx := X.1.1
  have hb := X.1.2.1
  have hl : lv_has ls 1 [(0, .ref (L (nm 0 10)))] := hl
  have hk : kl x x := kl.rf
  refine lv_aload_n hx hb dX4_popLong_0 rfl (lv_at hl 0 rfl) ?_
  refine m_calll (m_runV (i := nm 0 10) (ci := 3) (As := []) (rest := []) X (k_X4_pop Γ l L x  hI) v_X4_pop ml_X4_116 hw hS rfl rfl rfl rfl hl.1 ⟨Nat.le_of_ble_eq_true rfl, Nat.le_of_ble_eq_true rfl⟩ (Nat.le_of_ble_eq_true rfl) ⟨Nat.le_of_ble_eq_true rfl, Nat.le_of_ble_eq_true rfl⟩ dX4_popLong_1) hS (fun r_1 L1 M1 H locs hp_1 hw hS => ?_)
  obtain ⟨e1, c_1, e2, hI_1, hk_1⟩ := hp_1
  rw [e1, e2] at hw; clear e1 e2
  have hk := hk.tr hk_1
  have hI := hI_1
  refine lv_pop2_2 hx hb dX4_popLong_4 rfl ?_
  refine lv_aload_n hx hb dX4_popLong_5 rfl (lv_at hl 0 rfl) ?_
  refine m_calll (m_runV (i := nm 0 10) (ci := 3) (As := []) (rest := []) X (k_X4_pop Γ l L c_1  hI) v_X4_pop ml_X4_116 hw hS rfl rfl rfl rfl hl.1 ⟨Nat.le_of_ble_eq_true rfl, Nat.le_of_ble_eq_true rfl⟩ (Nat.le_of_ble_eq_true rfl) ⟨Nat.le_of_ble_eq_true rfl, Nat.le_of_ble_eq_true rfl⟩ dX4_popLong_6) hS (fun r_2 L1 M1 H locs hp_2 hw hS => ?_)
  obtain ⟨e1, c_2, e2, hI_2, hk_2⟩ := hp_2
  rw [e1, e2] at hw; clear e1 e2
  have hk := hk.tr hk_2
  have hI := hI_2
  exact m_lret X hr hlk hw hS (Nat.le_of_ble_eq_true rfl) (Nat.le_of_ble_eq_true rfl) ⟨rfl, _, rfl, hI, hk⟩ dX4_popLong_9
theorem v_X4_end : mVm yX4_end cX4_end 3 none 2 := ⟨cd_X4_end, im_X4_end, se_X4_end, ini_X4, by decide, by decide, by decide +kernel⟩
set_option maxHeartbeats 4000000 in
set_option maxRecDepth 100000 in
theorem k_X4_end (Γ : mG) (l : Launch) (L : mI → Nat) (x : CS) (k : Int32) (w : Int32) (hI : CInv x) : mMet Γ l yX4_end cX4_end 3 none { frames := 0, cells := 0, slots := 0, locals := 0 } [.ref (L (nm 0 10)), .int k, .int w] L (cM Γ L x) (mQv Γ (mKl Γ L x)) := by
  refine m_start (by decide) (Nat.le_of_ble_eq_true rfl) ?_
  intro p e s m args below meth c A ls X hr hlk hnm hw hS hl
  have hx := X.1.1
  have hb := X.1.2.1
  have hl : lv_has ls 3 [(0, .ref (L (nm 0 10))), (1, .int k), (2, .int w)] := hl
  have hk : kl x x := kl.rf
  refine lv_aload_n hx hb dX4_end_0 rfl (lv_at hl 0 rfl) ?_
  refine lv_iload_n hx hb dX4_end_1 rfl (lv_at hl 1 rfl) ?_
  refine s_put (a := 0) (b := 10) (v := k) (ci := 3) (ty := tyX4 7) X hw hS 7 rfl rfl rfl gX4 tyX4 tyX4_ok nmX4 (by decide) fl_X4_60 rfl rfl (tyX4_ok 7 (by decide)) rfl rfl (show 7 < 14 by decide) dX4_end_2 (fun H locs hw hS => ?_)
  have hI := hI.free (b := 10) (k := 7) (v := k) (by decide)
  have hk := hk.putS (a := 0) (b := 10) (k := 7) (v := k) (by omega)
  refine lv_aload_n hx hb dX4_end_5 rfl (lv_at hl 0 rfl) ?_
  refine lv_iload_n hx hb dX4_end_6 rfl (lv_at hl 2 rfl) ?_
  refine s_put (a := 0) (b := 10) (v := w) (ci := 3) (ty := tyX4 9) X hw hS 9 rfl rfl rfl gX4 tyX4 tyX4_ok nmX4 (by decide) fl_X4_63 rfl rfl (tyX4_ok 9 (by decide)) rfl rfl (show 9 < 14 by decide) dX4_end_7 (fun H locs hw hS => ?_)
  have hI := hI.free (b := 10) (k := 9) (v := w) (by decide)
  have hk := hk.putS (a := 0) (b := 10) (k := 9) (v := w) (by omega)
  exact m_vret X hr hlk hw hS (Nat.le_of_ble_eq_true rfl) (Nat.le_of_ble_eq_true rfl) ⟨rfl, _, rfl, hI, hk⟩ dX4_end_10
theorem v_X4_enter : mVm yX4_enter cX4_enter 2 none 1 := ⟨cd_X4_enter, im_X4_enter, se_X4_enter, ini_X4, by decide, by decide, by decide +kernel⟩
set_option maxHeartbeats 4000000 in
set_option maxRecDepth 100000 in
theorem k_X4_enter (Γ : mG) (l : Launch) (L : mI → Nat) (x : CS) (cm : Nat)  (hI : CInv x) (hm : cm < cN x) : mMet Γ l yX4_enter cX4_enter 2 none { frames := 0, cells := 0, slots := 0, locals := 0 } [.ref (L (nm 0 10)), .ref (L (nm (cm + 2) 0))] L (cM Γ L x) (mQv Γ (mKl Γ L x)) := by
  refine m_start (by decide) (Nat.le_of_ble_eq_true rfl) ?_
  intro p e s m args below meth c A ls X hr hlk hnm hw hS hl
  have hx := X.1.1
  have hb := X.1.2.1
  have hl : lv_has ls 2 [(0, .ref (L (nm 0 10))), (1, .ref (L (nm (cm + 2) 0)))] := hl
  have hk : kl x x := kl.rf
  refine lv_aload_n hx hb dX4_enter_0 rfl (lv_at hl 0 rfl) ?_
  refine s_get (a := 0) (b := 10) (ci := 3) X hw rfl rfl gX4 1 (by decide) fl_X4_22 rfl rfl dX4_enter_1 ?_
  refine lv_aload_n hx hb dX4_enter_4 rfl (lv_at hl 0 rfl) ?_
  refine s_get (a := 0) (b := 10) (ci := 3) X hw rfl rfl gX4 6 (by decide) fl_X4_50 rfl rfl dX4_enter_5 ?_
  obtain ⟨z_1, hz_1, ez_1⟩ := hI.2.2.2.1
  refine lv_aload_n hx hb dX4_enter_8 rfl (lv_at hl 1 rfl) ?_
  refine s_qast (k := z_1) (j := cm) X hw hS (hk.lt hm) ez_1 (by omega) dX4_enter_9 (fun H locs hw hS => ?_)
  have hI := hI.putQ (i := z_1) (m := cm) (hk.lt hm)
  have hk := hk.putQ (i := z_1) (m := cm)
  refine lv_aload_n hx hb dX4_enter_10 rfl (lv_at hl 0 rfl) ?_
  refine s_get (a := 0) (b := 10) (ci := 3) X hw rfl rfl gX4 2 (by decide) fl_X4_26 rfl rfl dX4_enter_11 ?_
  refine lv_aload_n hx hb dX4_enter_14 rfl (lv_at hl 0 rfl) ?_
  refine s_get (a := 0) (b := 10) (ci := 3) X hw rfl rfl gX4 6 (by decide) fl_X4_50 rfl rfl dX4_enter_15 ?_
  refine lv_iconst (v := 0) hx hb dX4_enter_18 (by decide) ?_
  refine s_iast (n := 8) (k := z_1) (v := 0) X hw hS (fun _ => rfl) ez_1 (by omega) (by decide) dX4_enter_19 (fun H locs hw hS => ?_)
  have hI := hI.putV (a := 0) (b := 17) (j := z_1) (v := 0) (by omega)
  have hk := hk.putV (a := 0) (b := 17) (j := z_1) (v := 0) (by omega)
  refine lv_aload_n hx hb dX4_enter_20 rfl (lv_at hl 0 rfl) ?_
  refine s_get (a := 0) (b := 10) (ci := 3) X hw rfl rfl gX4 3 (by decide) fl_X4_30 rfl rfl dX4_enter_21 ?_
  refine lv_aload_n hx hb dX4_enter_24 rfl (lv_at hl 0 rfl) ?_
  refine s_get (a := 0) (b := 10) (ci := 3) X hw rfl rfl gX4 6 (by decide) fl_X4_50 rfl rfl dX4_enter_25 ?_
  refine lv_iconst (v := 0) hx hb dX4_enter_28 (by decide) ?_
  refine s_iast (n := 8) (k := z_1) (v := 0) X hw hS (fun _ => rfl) ez_1 (by omega) (by decide) dX4_enter_29 (fun H locs hw hS => ?_)
  have hI := hI.putV (a := 0) (b := 18) (j := z_1) (v := 0) (by omega)
  have hk := hk.putV (a := 0) (b := 18) (j := z_1) (v := 0) (by omega)
  exact m_vret X hr hlk hw hS (Nat.le_of_ble_eq_true rfl) (Nat.le_of_ble_eq_true rfl) ⟨rfl, _, rfl, hI, hk⟩ dX4_enter_30
theorem v_X4_giveParams : mVm yX4_giveParams cX4_giveParams 5 none 4 := ⟨cd_X4_giveParams, im_X4_giveParams, se_X4_giveParams, ini_X4, by decide, by decide, by decide +kernel⟩
set_option maxHeartbeats 4000000 in
set_option maxRecDepth 100000 in
theorem k_X4_giveParams (Γ : mG) (l : Launch) (L : mI → Nat) (x : CS) (a : Int32) (b : Int32) (k : Int32) (d : Int32) (hI : CInv x) : mMet Γ l yX4_giveParams cX4_giveParams 5 none { frames := 0, cells := 0, slots := 0, locals := 0 } [.ref (L (nm 0 10)), .int a, .int b, .int k, .int d] L (cM Γ L x) (mQv Γ (mKl Γ L x)) := by
  refine m_start (by decide) (Nat.le_of_ble_eq_true rfl) ?_
  intro p e s m args below meth c A ls X hr hlk hnm hw hS hl
  have hx := X.1.1
  have hb := X.1.2.1
  have hl : lv_has ls 5 [(0, .ref (L (nm 0 10))), (1, .int a), (2, .int b), (3, .int k), (4, .int d)] := hl
  have hk : kl x x := kl.rf
  refine lv_aload_n hx hb dX4_giveParams_0 rfl (lv_at hl 0 rfl) ?_
  refine s_get (a := 0) (b := 10) (ci := 3) X hw rfl rfl gX4 4 (by decide) fl_X4_35 rfl rfl dX4_giveParams_1 ?_
  refine lv_iconst (v := 0) hx hb dX4_giveParams_4 (by decide) ?_
  refine lv_iload_n hx hb dX4_giveParams_5 rfl (lv_at hl 1 rfl) ?_
  refine lv_i2l (v := a.toInt64) hx hb dX4_giveParams_6 rfl ?_
  refine s_last (n := 64) (k := 0) (v := a.toInt64) X hw hS (fun _ => rfl) rfl (by omega) (by decide) dX4_giveParams_7 (fun H locs hw hS => ?_)
  have hI := CInv.putJ (a := 0) (b := 19) (j := 0) (v := a.toInt64) hI
  have hk := hk.putJ (a := 0) (b := 19) (j := 0) (v := a.toInt64) (by omega)
  refine lv_aload_n hx hb dX4_giveParams_8 rfl (lv_at hl 0 rfl) ?_
  refine s_get (a := 0) (b := 10) (ci := 3) X hw rfl rfl gX4 4 (by decide) fl_X4_35 rfl rfl dX4_giveParams_9 ?_
  refine lv_iconst (v := 1) hx hb dX4_giveParams_12 (by decide) ?_
  refine lv_iload_n hx hb dX4_giveParams_13 rfl (lv_at hl 2 rfl) ?_
  refine lv_i2l (v := b.toInt64) hx hb dX4_giveParams_14 rfl ?_
  refine s_last (n := 64) (k := 1) (v := b.toInt64) X hw hS (fun _ => rfl) rfl (by omega) (by decide) dX4_giveParams_15 (fun H locs hw hS => ?_)
  have hI := CInv.putJ (a := 0) (b := 19) (j := 1) (v := b.toInt64) hI
  have hk := hk.putJ (a := 0) (b := 19) (j := 1) (v := b.toInt64) (by omega)
  refine lv_aload_n hx hb dX4_giveParams_16 rfl (lv_at hl 0 rfl) ?_
  refine s_get (a := 0) (b := 10) (ci := 3) X hw rfl rfl gX4 4 (by decide) fl_X4_35 rfl rfl dX4_giveParams_17 ?_
  refine lv_iconst (v := 2) hx hb dX4_giveParams_20 (by decide) ?_
  refine lv_iload_n hx hb dX4_giveParams_21 rfl (lv_at hl 3 rfl) ?_
  refine lv_i2l (v := k.toInt64) hx hb dX4_giveParams_22 rfl ?_
  refine s_last (n := 64) (k := 2) (v := k.toInt64) X hw hS (fun _ => rfl) rfl (by omega) (by decide) dX4_giveParams_23 (fun H locs hw hS => ?_)
  have hI := CInv.putJ (a := 0) (b := 19) (j := 2) (v := k.toInt64) hI
  have hk := hk.putJ (a := 0) (b := 19) (j := 2) (v := k.toInt64) (by omega)
  refine lv_aload_n hx hb dX4_giveParams_24 rfl (lv_at hl 0 rfl) ?_
  refine s_get (a := 0) (b := 10) (ci := 3) X hw rfl rfl gX4 4 (by decide) fl_X4_35 rfl rfl dX4_giveParams_25 ?_
  refine lv_iconst (v := 3) hx hb dX4_giveParams_28 (by decide) ?_
  refine lv_iload hx hb dX4_giveParams_29 (lv_at hl 4 rfl) ?_
  refine lv_i2l (v := d.toInt64) hx hb dX4_giveParams_31 rfl ?_
  refine s_last (n := 64) (k := 3) (v := d.toInt64) X hw hS (fun _ => rfl) rfl (by omega) (by decide) dX4_giveParams_32 (fun H locs hw hS => ?_)
  have hI := CInv.putJ (a := 0) (b := 19) (j := 3) (v := d.toInt64) hI
  have hk := hk.putJ (a := 0) (b := 19) (j := 3) (v := d.toInt64) (by omega)
  exact m_vret X hr hlk hw hS (Nat.le_of_ble_eq_true rfl) (Nat.le_of_ble_eq_true rfl) ⟨rfl, _, rfl, hI, hk⟩ dX4_giveParams_33
theorem s_X4_related : mSm yX4_related cX4_related 5 (some .long) 3 := ⟨cd_X4_related, st_X4_related, ini_X4, by decide, by decide, by decide +kernel⟩
set_option maxHeartbeats 4000000 in
set_option maxRecDepth 100000 in
theorem k_X4_related (Γ : mG) (l : Launch) (L : mI → Nat) (x : CS) (k : Int32) (v : Int64) (w : Int64)  : mMet Γ l yX4_related cX4_related 5 (some .long) { frames := 0, cells := 0, slots := 0, locals := 0 } [.int k, .long v, .long w] L (cM Γ L x) (mQl Γ (fun r L1 M1 => L1 = L ∧ M1 = cM Γ L x)) := by
  refine m_start (by decide) (Nat.le_of_ble_eq_true rfl) ?_
  intro p e s m args below meth c A ls X hr hlk hnm hw hS hl
  have hx := X.1.1
  have hb := X.1.2.1
  have hl : lv_has ls 5 [(0, .int k), (1, .long v), (3, .long w)] := hl
  refine lv_iload_n hx hb dX4_related_0 rfl (lv_at hl 0 rfl) ?_
  by_cases c_1 : k.toInt < 0 ∨ 3 < k.toInt
  · refine lv_tableOut (tgt := 58) hx hb dX4_related_1 c_1 (by decide) ?_
    refine lv_lload_n hx hb dX4_related_58 rfl (lv_at hl 2 rfl) ?_
    refine lv_lconst (v := 0) hx hb dX4_related_59 (by decide) ?_
    refine m_lcmp_ne (tgt := 68) hx hb dX4_related_60 dX4_related_61 (by decide) (fun c_2 => ?_) (fun c_2 => ?_)
    · skip
      refine lv_lload_n hx hb dX4_related_68 rfl (lv_at hl 1 rfl) ?_
      refine lv_lload_n hx hb dX4_related_69 rfl (lv_at hl 2 rfl) ?_
      refine lv_lrem hx hb dX4_related_70 (by assumption) ?_
      exact m_lret X hr hlk hw hS (Nat.le_of_ble_eq_true rfl) (Nat.le_of_ble_eq_true rfl) ⟨rfl, rfl⟩ dX4_related_71
    · skip
      refine lv_lconst (v := 0) hx hb dX4_related_64 (by decide) ?_
      refine lv_goto (tgt := 71) hx hb dX4_related_65 (by decide) ?_
      exact m_lret X hr hlk hw hS (Nat.le_of_ble_eq_true rfl) (Nat.le_of_ble_eq_true rfl) ⟨rfl, rfl⟩ dX4_related_71
  · have c_1b : k.toInt = 0 ∨ k.toInt = 1 ∨ k.toInt = 2 ∨ k.toInt = 3 := by omega
    rcases c_1b with c_1v | c_1v | c_1v | c_1v
    · have c_1e : k = 0 := Int32.toInt_inj.mp c_1v
      refine lv_tableIn (off := 31) (tgt := 32) hx hb dX4_related_1 (by omega) (by omega) (by rw [c_1v]; rfl) (by decide) ?_
      refine lv_lload_n hx hb dX4_related_32 rfl (lv_at hl 1 rfl) ?_
      refine lv_lload_n hx hb dX4_related_33 rfl (lv_at hl 2 rfl) ?_
      refine lv_ladd hx hb dX4_related_34 ?_
      exact m_lret X hr hlk hw hS (Nat.le_of_ble_eq_true rfl) (Nat.le_of_ble_eq_true rfl) ⟨rfl, rfl⟩ dX4_related_35
    · have c_1e : k = 1 := Int32.toInt_inj.mp c_1v
      refine lv_tableIn (off := 35) (tgt := 36) hx hb dX4_related_1 (by omega) (by omega) (by rw [c_1v]; rfl) (by decide) ?_
      refine lv_lload_n hx hb dX4_related_36 rfl (lv_at hl 1 rfl) ?_
      refine lv_lload_n hx hb dX4_related_37 rfl (lv_at hl 2 rfl) ?_
      refine lv_lsub hx hb dX4_related_38 ?_
      exact m_lret X hr hlk hw hS (Nat.le_of_ble_eq_true rfl) (Nat.le_of_ble_eq_true rfl) ⟨rfl, rfl⟩ dX4_related_39
    · have c_1e : k = 2 := Int32.toInt_inj.mp c_1v
      refine lv_tableIn (off := 39) (tgt := 40) hx hb dX4_related_1 (by omega) (by omega) (by rw [c_1v]; rfl) (by decide) ?_
      refine lv_lload_n hx hb dX4_related_40 rfl (lv_at hl 1 rfl) ?_
      refine lv_lload_n hx hb dX4_related_41 rfl (lv_at hl 2 rfl) ?_
      refine lv_lmul hx hb dX4_related_42 ?_
      exact m_lret X hr hlk hw hS (Nat.le_of_ble_eq_true rfl) (Nat.le_of_ble_eq_true rfl) ⟨rfl, rfl⟩ dX4_related_43
    · have c_1e : k = 3 := Int32.toInt_inj.mp c_1v
      refine lv_tableIn (off := 43) (tgt := 44) hx hb dX4_related_1 (by omega) (by omega) (by rw [c_1v]; rfl) (by decide) ?_
      refine lv_lload_n hx hb dX4_related_44 rfl (lv_at hl 2 rfl) ?_
      refine lv_lconst (v := 0) hx hb dX4_related_45 (by decide) ?_
      refine m_lcmp_ne (tgt := 54) hx hb dX4_related_46 dX4_related_47 (by decide) (fun c_3 => ?_) (fun c_3 => ?_)
      · skip
        refine lv_lload_n hx hb dX4_related_54 rfl (lv_at hl 1 rfl) ?_
        refine lv_lload_n hx hb dX4_related_55 rfl (lv_at hl 2 rfl) ?_
        refine lv_ldiv hx hb dX4_related_56 (by assumption) ?_
        exact m_lret X hr hlk hw hS (Nat.le_of_ble_eq_true rfl) (Nat.le_of_ble_eq_true rfl) ⟨rfl, rfl⟩ dX4_related_57
      · skip
        refine lv_lconst (v := 0) hx hb dX4_related_50 (by decide) ?_
        refine lv_goto (tgt := 57) hx hb dX4_related_51 (by decide) ?_
        exact m_lret X hr hlk hw hS (Nat.le_of_ble_eq_true rfl) (Nat.le_of_ble_eq_true rfl) ⟨rfl, rfl⟩ dX4_related_57
theorem v_X4_relatesInts : mVm yX4_relatesInts cX4_relatesInts 4 (some .int) 1 := ⟨cd_X4_relatesInts, im_X4_relatesInts, se_X4_relatesInts, ini_X4, by decide, by decide, by decide +kernel⟩
set_option maxHeartbeats 4000000 in
set_option maxRecDepth 100000 in
theorem k_X4_relatesInts (Γ : mG) (l : Launch) (L : mI → Nat) (x : CS) (k : Int32) (hI : CInv x) : mMet Γ l yX4_relatesInts cX4_relatesInts 4 (some .int) { frames := 2, cells := 0, slots := 0, locals := 40 } [.ref (L (nm 0 10)), .int k] L (cM Γ L x) (mQi Γ (fun _ => mKl Γ L x)) := by
  refine m_start (by decide) (Nat.le_of_ble_eq_true rfl) ?_
  intro p e s m args below meth c A ls X hr hlk hnm hw hS hl
  have hx := X.1.1
  have hb := X.1.2.1
  have hl : lv_has ls 4 [(0, .ref (L (nm 0 10))), (1, .int k)] := hl
  have hk : kl x x := kl.rf
  refine lv_aload_n hx hb dX4_relatesInts_0 rfl (lv_at hl 0 rfl) ?_
  refine m_calli (m_runV (i := nm 0 10) (ci := 3) (As := []) (rest := []) X (k_X4_popInt Γ l L x  hI) v_X4_popInt ml_X4_162 hw hS rfl rfl rfl rfl hl.1 ⟨Nat.le_of_ble_eq_true rfl, Nat.le_of_ble_eq_true rfl⟩ (Nat.le_of_ble_eq_true rfl) ⟨Nat.le_of_ble_eq_true rfl, Nat.le_of_ble_eq_true rfl⟩ dX4_relatesInts_1) hS (fun r_1 L1 M1 H locs hp_1 hw hS => ?_)
  obtain ⟨e1, c_1, e2, hI_1, hk_1⟩ := hp_1
  rw [e1, e2] at hw; clear e1 e2
  have hk := hk.tr hk_1
  have hI := hI_1
  refine lv_istore_n (lv' := [(2, .int r_1), (0, .ref (L (nm 0 10))), (1, .int k)]) hx hb dX4_relatesInts_4 rfl hl (by decide) rfl (fun ls hl => ?_)
  refine lv_aload_n hx hb dX4_relatesInts_5 rfl (lv_at hl 1 rfl) ?_
  refine m_calli (m_runV (i := nm 0 10) (ci := 3) (As := []) (rest := []) X (k_X4_popInt Γ l L c_1  hI) v_X4_popInt ml_X4_162 hw hS rfl rfl rfl rfl hl.1 ⟨Nat.le_of_ble_eq_true rfl, Nat.le_of_ble_eq_true rfl⟩ (Nat.le_of_ble_eq_true rfl) ⟨Nat.le_of_ble_eq_true rfl, Nat.le_of_ble_eq_true rfl⟩ dX4_relatesInts_6) hS (fun r_2 L1 M1 H locs hp_2 hw hS => ?_)
  obtain ⟨e1, c_2, e2, hI_2, hk_2⟩ := hp_2
  rw [e1, e2] at hw; clear e1 e2
  have hk := hk.tr hk_2
  have hI := hI_2
  refine lv_istore_n (lv' := [(3, .int r_2), (2, .int r_1), (0, .ref (L (nm 0 10))), (1, .int k)]) hx hb dX4_relatesInts_9 rfl hl (by decide) rfl (fun ls hl => ?_)
  refine lv_iload_n hx hb dX4_relatesInts_10 rfl (lv_at hl 3 rfl) ?_
  refine lv_iconst (v := 3) hx hb dX4_relatesInts_11 (by decide) ?_
  refine lv_icmp_lt (tgt := 22) hx hb dX4_relatesInts_12 (by decide) (fun c_3 => ?_) (fun c_3 => ?_)
  · skip
    refine lv_aload_n hx hb dX4_relatesInts_22 rfl (lv_at hl 2 rfl) ?_
    refine lv_iload_n hx hb dX4_relatesInts_23 rfl (lv_at hl 3 rfl) ?_
    refine lv_iload_n hx hb dX4_relatesInts_24 rfl (lv_at hl 0 rfl) ?_
    refine lv_i2l (v := r_2.toInt64) hx hb dX4_relatesInts_25 rfl ?_
    refine lv_iload_n hx hb dX4_relatesInts_26 rfl (lv_at hl 1 rfl) ?_
    refine lv_i2l (v := r_1.toInt64) hx hb dX4_relatesInts_27 rfl ?_
    refine m_calll (m_runS (As := [.int k, .long r_2.toInt64, .long r_1.toInt64]) (rest := [.ref (L (nm 0 10))]) X (k_X4_related Γ l L c_2 k r_2.toInt64 r_1.toInt64) s_X4_related ml_X4_166 hw hS rfl hl.1 ⟨Nat.le_of_ble_eq_true rfl, Nat.le_of_ble_eq_true rfl⟩ (Nat.le_of_ble_eq_true rfl) ⟨Nat.le_of_ble_eq_true rfl, Nat.le_of_ble_eq_true rfl⟩ dX4_relatesInts_28) hS (fun r_4 L1 M1 H locs hp_4 hw hS => ?_)
    obtain ⟨e1, e2⟩ := hp_4
    rw [e1, e2] at hw; clear e1 e2
    refine lv_l2i (v := r_4.toInt32) hx hb dX4_relatesInts_31 rfl ?_
    refine lv_i2l (v := r_4.toInt32.toInt64) hx hb dX4_relatesInts_32 rfl ?_
    refine m_callv (m_runV (i := nm 0 10) (ci := 3) (As := [.long r_4.toInt32.toInt64]) (rest := []) X (k_X4_push Γ l L c_2 r_4.toInt32.toInt64 hI) v_X4_push ml_X4_112 hw hS rfl rfl rfl rfl hl.1 ⟨Nat.le_of_ble_eq_true rfl, Nat.le_of_ble_eq_true rfl⟩ (Nat.le_of_ble_eq_true rfl) ⟨Nat.le_of_ble_eq_true rfl, Nat.le_of_ble_eq_true rfl⟩ dX4_relatesInts_33) hS (fun L1 M1 H locs hp_5 hw hS => ?_)
    obtain ⟨e1, c_5, e2, hI_5, hk_5⟩ := hp_5
    rw [e1, e2] at hw; clear e1 e2
    have hk := hk.tr hk_5
    have hI := hI_5
    refine lv_iconst (v := 0) hx hb dX4_relatesInts_36 (by decide) ?_
    exact m_iret X hr hlk hw hS (Nat.le_of_ble_eq_true rfl) (Nat.le_of_ble_eq_true rfl) ⟨rfl, _, rfl, hI, hk⟩ dX4_relatesInts_37
  · skip
    refine lv_iload_n hx hb dX4_relatesInts_15 rfl (lv_at hl 1 rfl) ?_
    refine lv_if_ne (tgt := 22) hx hb dX4_relatesInts_16 (by decide) (fun c_6 => ?_) (fun c_6 => ?_)
    · skip
      refine lv_aload_n hx hb dX4_relatesInts_22 rfl (lv_at hl 2 rfl) ?_
      refine lv_iload_n hx hb dX4_relatesInts_23 rfl (lv_at hl 3 rfl) ?_
      refine lv_iload_n hx hb dX4_relatesInts_24 rfl (lv_at hl 0 rfl) ?_
      refine lv_i2l (v := r_2.toInt64) hx hb dX4_relatesInts_25 rfl ?_
      refine lv_iload_n hx hb dX4_relatesInts_26 rfl (lv_at hl 1 rfl) ?_
      refine lv_i2l (v := r_1.toInt64) hx hb dX4_relatesInts_27 rfl ?_
      refine m_calll (m_runS (As := [.int k, .long r_2.toInt64, .long r_1.toInt64]) (rest := [.ref (L (nm 0 10))]) X (k_X4_related Γ l L c_2 k r_2.toInt64 r_1.toInt64) s_X4_related ml_X4_166 hw hS rfl hl.1 ⟨Nat.le_of_ble_eq_true rfl, Nat.le_of_ble_eq_true rfl⟩ (Nat.le_of_ble_eq_true rfl) ⟨Nat.le_of_ble_eq_true rfl, Nat.le_of_ble_eq_true rfl⟩ dX4_relatesInts_28) hS (fun r_7 L1 M1 H locs hp_7 hw hS => ?_)
      obtain ⟨e1, e2⟩ := hp_7
      rw [e1, e2] at hw; clear e1 e2
      refine lv_l2i (v := r_7.toInt32) hx hb dX4_relatesInts_31 rfl ?_
      refine lv_i2l (v := r_7.toInt32.toInt64) hx hb dX4_relatesInts_32 rfl ?_
      refine m_callv (m_runV (i := nm 0 10) (ci := 3) (As := [.long r_7.toInt32.toInt64]) (rest := []) X (k_X4_push Γ l L c_2 r_7.toInt32.toInt64 hI) v_X4_push ml_X4_112 hw hS rfl rfl rfl rfl hl.1 ⟨Nat.le_of_ble_eq_true rfl, Nat.le_of_ble_eq_true rfl⟩ (Nat.le_of_ble_eq_true rfl) ⟨Nat.le_of_ble_eq_true rfl, Nat.le_of_ble_eq_true rfl⟩ dX4_relatesInts_33) hS (fun L1 M1 H locs hp_8 hw hS => ?_)
      obtain ⟨e1, c_8, e2, hI_8, hk_8⟩ := hp_8
      rw [e1, e2] at hw; clear e1 e2
      have hk := hk.tr hk_8
      have hI := hI_8
      refine lv_iconst (v := 0) hx hb dX4_relatesInts_36 (by decide) ?_
      exact m_iret X hr hlk hw hS (Nat.le_of_ble_eq_true rfl) (Nat.le_of_ble_eq_true rfl) ⟨rfl, _, rfl, hI, hk⟩ dX4_relatesInts_37
    · skip
      refine lv_bipush (v := 6) hx hb dX4_relatesInts_19 (by decide) ?_
      exact m_iret X hr hlk hw hS (Nat.le_of_ble_eq_true rfl) (Nat.le_of_ble_eq_true rfl) ⟨rfl, _, rfl, hI, hk⟩ dX4_relatesInts_21
theorem v_X4_relatesLongs : mVm yX4_relatesLongs cX4_relatesLongs 6 (some .int) 1 := ⟨cd_X4_relatesLongs, im_X4_relatesLongs, se_X4_relatesLongs, ini_X4, by decide, by decide, by decide +kernel⟩
set_option maxHeartbeats 4000000 in
set_option maxRecDepth 100000 in
theorem k_X4_relatesLongs (Γ : mG) (l : Launch) (L : mI → Nat) (x : CS) (k : Int32) (hI : CInv x) : mMet Γ l yX4_relatesLongs cX4_relatesLongs 6 (some .int) { frames := 2, cells := 0, slots := 0, locals := 44 } [.ref (L (nm 0 10)), .int k] L (cM Γ L x) (mQi Γ (fun _ => mKl Γ L x)) := by
  refine m_start (by decide) (Nat.le_of_ble_eq_true rfl) ?_
  intro p e s m args below meth c A ls X hr hlk hnm hw hS hl
  have hx := X.1.1
  have hb := X.1.2.1
  have hl : lv_has ls 6 [(0, .ref (L (nm 0 10))), (1, .int k)] := hl
  have hk : kl x x := kl.rf
  refine lv_aload_n hx hb dX4_relatesLongs_0 rfl (lv_at hl 0 rfl) ?_
  refine m_calll (m_runV (i := nm 0 10) (ci := 3) (As := []) (rest := []) X (k_X4_popLong Γ l L x  hI) v_X4_popLong ml_X4_153 hw hS rfl rfl rfl rfl hl.1 ⟨Nat.le_of_ble_eq_true rfl, Nat.le_of_ble_eq_true rfl⟩ (Nat.le_of_ble_eq_true rfl) ⟨Nat.le_of_ble_eq_true rfl, Nat.le_of_ble_eq_true rfl⟩ dX4_relatesLongs_1) hS (fun r_1 L1 M1 H locs hp_1 hw hS => ?_)
  obtain ⟨e1, c_1, e2, hI_1, hk_1⟩ := hp_1
  rw [e1, e2] at hw; clear e1 e2
  have hk := hk.tr hk_1
  have hI := hI_1
  refine lv_lstore_n (lv' := [(2, .long r_1), (0, .ref (L (nm 0 10))), (1, .int k)]) hx hb dX4_relatesLongs_4 rfl hl (by decide) rfl (fun ls hl => ?_)
  refine lv_aload_n hx hb dX4_relatesLongs_5 rfl (lv_at hl 1 rfl) ?_
  refine m_calll (m_runV (i := nm 0 10) (ci := 3) (As := []) (rest := []) X (k_X4_popLong Γ l L c_1  hI) v_X4_popLong ml_X4_153 hw hS rfl rfl rfl rfl hl.1 ⟨Nat.le_of_ble_eq_true rfl, Nat.le_of_ble_eq_true rfl⟩ (Nat.le_of_ble_eq_true rfl) ⟨Nat.le_of_ble_eq_true rfl, Nat.le_of_ble_eq_true rfl⟩ dX4_relatesLongs_6) hS (fun r_2 L1 M1 H locs hp_2 hw hS => ?_)
  obtain ⟨e1, c_2, e2, hI_2, hk_2⟩ := hp_2
  rw [e1, e2] at hw; clear e1 e2
  have hk := hk.tr hk_2
  have hI := hI_2
  refine lv_lstore (lv' := [(4, .long r_2), (2, .long r_1), (0, .ref (L (nm 0 10))), (1, .int k)]) hx hb dX4_relatesLongs_9 hl (by decide) rfl (fun ls hl => ?_)
  refine lv_iload_n hx hb dX4_relatesLongs_11 rfl (lv_at hl 3 rfl) ?_
  refine lv_iconst (v := 3) hx hb dX4_relatesLongs_12 (by decide) ?_
  refine lv_icmp_lt (tgt := 25) hx hb dX4_relatesLongs_13 (by decide) (fun c_3 => ?_) (fun c_3 => ?_)
  · skip
    refine lv_aload_n hx hb dX4_relatesLongs_25 rfl (lv_at hl 2 rfl) ?_
    refine lv_iload_n hx hb dX4_relatesLongs_26 rfl (lv_at hl 3 rfl) ?_
    refine lv_lload hx hb dX4_relatesLongs_27 (lv_at hl 0 rfl) ?_
    refine lv_lload_n hx hb dX4_relatesLongs_29 rfl (lv_at hl 1 rfl) ?_
    refine m_calll (m_runS (As := [.int k, .long r_2, .long r_1]) (rest := [.ref (L (nm 0 10))]) X (k_X4_related Γ l L c_2 k r_2 r_1) s_X4_related ml_X4_166 hw hS rfl hl.1 ⟨Nat.le_of_ble_eq_true rfl, Nat.le_of_ble_eq_true rfl⟩ (Nat.le_of_ble_eq_true rfl) ⟨Nat.le_of_ble_eq_true rfl, Nat.le_of_ble_eq_true rfl⟩ dX4_relatesLongs_30) hS (fun r_4 L1 M1 H locs hp_4 hw hS => ?_)
    obtain ⟨e1, e2⟩ := hp_4
    rw [e1, e2] at hw; clear e1 e2
    refine m_callv (m_runV (i := nm 0 10) (ci := 3) (As := [.long r_4]) (rest := []) X (k_X4_pushLong Γ l L c_2 r_4 hI) v_X4_pushLong ml_X4_148 hw hS rfl rfl rfl rfl hl.1 ⟨Nat.le_of_ble_eq_true rfl, Nat.le_of_ble_eq_true rfl⟩ (Nat.le_of_ble_eq_true rfl) ⟨Nat.le_of_ble_eq_true rfl, Nat.le_of_ble_eq_true rfl⟩ dX4_relatesLongs_33) hS (fun L1 M1 H locs hp_5 hw hS => ?_)
    obtain ⟨e1, c_5, e2, hI_5, hk_5⟩ := hp_5
    rw [e1, e2] at hw; clear e1 e2
    have hk := hk.tr hk_5
    have hI := hI_5
    refine lv_iconst (v := 0) hx hb dX4_relatesLongs_36 (by decide) ?_
    exact m_iret X hr hlk hw hS (Nat.le_of_ble_eq_true rfl) (Nat.le_of_ble_eq_true rfl) ⟨rfl, _, rfl, hI, hk⟩ dX4_relatesLongs_37
  · skip
    refine lv_lload_n hx hb dX4_relatesLongs_16 rfl (lv_at hl 1 rfl) ?_
    refine lv_lconst (v := 0) hx hb dX4_relatesLongs_17 (by decide) ?_
    refine m_lcmp_ne (tgt := 25) hx hb dX4_relatesLongs_18 dX4_relatesLongs_19 (by decide) (fun c_6 => ?_) (fun c_6 => ?_)
    · skip
      refine lv_aload_n hx hb dX4_relatesLongs_25 rfl (lv_at hl 2 rfl) ?_
      refine lv_iload_n hx hb dX4_relatesLongs_26 rfl (lv_at hl 3 rfl) ?_
      refine lv_lload hx hb dX4_relatesLongs_27 (lv_at hl 0 rfl) ?_
      refine lv_lload_n hx hb dX4_relatesLongs_29 rfl (lv_at hl 1 rfl) ?_
      refine m_calll (m_runS (As := [.int k, .long r_2, .long r_1]) (rest := [.ref (L (nm 0 10))]) X (k_X4_related Γ l L c_2 k r_2 r_1) s_X4_related ml_X4_166 hw hS rfl hl.1 ⟨Nat.le_of_ble_eq_true rfl, Nat.le_of_ble_eq_true rfl⟩ (Nat.le_of_ble_eq_true rfl) ⟨Nat.le_of_ble_eq_true rfl, Nat.le_of_ble_eq_true rfl⟩ dX4_relatesLongs_30) hS (fun r_7 L1 M1 H locs hp_7 hw hS => ?_)
      obtain ⟨e1, e2⟩ := hp_7
      rw [e1, e2] at hw; clear e1 e2
      refine m_callv (m_runV (i := nm 0 10) (ci := 3) (As := [.long r_7]) (rest := []) X (k_X4_pushLong Γ l L c_2 r_7 hI) v_X4_pushLong ml_X4_148 hw hS rfl rfl rfl rfl hl.1 ⟨Nat.le_of_ble_eq_true rfl, Nat.le_of_ble_eq_true rfl⟩ (Nat.le_of_ble_eq_true rfl) ⟨Nat.le_of_ble_eq_true rfl, Nat.le_of_ble_eq_true rfl⟩ dX4_relatesLongs_33) hS (fun L1 M1 H locs hp_8 hw hS => ?_)
      obtain ⟨e1, c_8, e2, hI_8, hk_8⟩ := hp_8
      rw [e1, e2] at hw; clear e1 e2
      have hk := hk.tr hk_8
      have hI := hI_8
      refine lv_iconst (v := 0) hx hb dX4_relatesLongs_36 (by decide) ?_
      exact m_iret X hr hlk hw hS (Nat.le_of_ble_eq_true rfl) (Nat.le_of_ble_eq_true rfl) ⟨rfl, _, rfl, hI, hk⟩ dX4_relatesLongs_37
    · skip
      refine lv_bipush (v := 6) hx hb dX4_relatesLongs_22 (by decide) ?_
      exact m_iret X hr hlk hw hS (Nat.le_of_ble_eq_true rfl) (Nat.le_of_ble_eq_true rfl) ⟨rfl, _, rfl, hI, hk⟩ dX4_relatesLongs_24
theorem v_X4_reckons : mVm yX4_reckons cX4_reckons 8 (some .int) 2 := ⟨cd_X4_reckons, im_X4_reckons, se_X4_reckons, ini_X4, by decide, by decide, by decide +kernel⟩
set_option maxHeartbeats 4000000 in
set_option maxRecDepth 100000 in
theorem k_X4_reckons (Γ : mG) (l : Launch) (L : mI → Nat) (x : CS) (o : Int32) (v : Int64) (hI : CInv x) : mMet Γ l yX4_reckons cX4_reckons 8 (some .int) { frames := 3, cells := 0, slots := 0, locals := 69 } [.ref (L (nm 0 10)), .int o, .long v] L (cM Γ L x) (mQi Γ (fun _ => mKl Γ L x)) := by
  refine m_start (by decide) (Nat.le_of_ble_eq_true rfl) ?_
  intro p e s m args below meth c A ls X hr hlk hnm hw hS hl
  have hx := X.1.1
  have hb := X.1.2.1
  have hl : lv_has ls 8 [(0, .ref (L (nm 0 10))), (1, .int o), (2, .long v)] := hl
  have hk : kl x x := kl.rf
  refine lv_iload_n hx hb dX4_reckons_0 rfl (lv_at hl 1 rfl) ?_
  by_cases c_1 : o.toInt < 7 ∨ 10 < o.toInt
  · refine lv_tableOut (tgt := 69) hx hb dX4_reckons_1 c_1 (by decide) ?_
    refine lv_aload_n hx hb dX4_reckons_69 rfl (lv_at hl 0 rfl) ?_
    refine m_calll (m_runV (i := nm 0 10) (ci := 3) (As := []) (rest := []) X (k_X4_popLong Γ l L x  hI) v_X4_popLong ml_X4_153 hw hS rfl rfl rfl rfl hl.1 ⟨Nat.le_of_ble_eq_true rfl, Nat.le_of_ble_eq_true rfl⟩ (Nat.le_of_ble_eq_true rfl) ⟨Nat.le_of_ble_eq_true rfl, Nat.le_of_ble_eq_true rfl⟩ dX4_reckons_70) hS (fun r_2 L1 M1 H locs hp_2 hw hS => ?_)
    obtain ⟨e1, c_2, e2, hI_2, hk_2⟩ := hp_2
    rw [e1, e2] at hw; clear e1 e2
    have hk := hk.tr hk_2
    have hI := hI_2
    refine lv_lstore (lv' := [(4, .long r_2), (0, .ref (L (nm 0 10))), (1, .int o), (2, .long v)]) hx hb dX4_reckons_73 hl (by decide) rfl (fun ls hl => ?_)
    refine lv_aload_n hx hb dX4_reckons_75 rfl (lv_at hl 1 rfl) ?_
    refine m_calll (m_runV (i := nm 0 10) (ci := 3) (As := []) (rest := []) X (k_X4_popLong Γ l L c_2  hI) v_X4_popLong ml_X4_153 hw hS rfl rfl rfl rfl hl.1 ⟨Nat.le_of_ble_eq_true rfl, Nat.le_of_ble_eq_true rfl⟩ (Nat.le_of_ble_eq_true rfl) ⟨Nat.le_of_ble_eq_true rfl, Nat.le_of_ble_eq_true rfl⟩ dX4_reckons_76) hS (fun r_3 L1 M1 H locs hp_3 hw hS => ?_)
    obtain ⟨e1, c_3, e2, hI_3, hk_3⟩ := hp_3
    rw [e1, e2] at hw; clear e1 e2
    have hk := hk.tr hk_3
    have hI := hI_3
    refine lv_lstore (lv' := [(6, .long r_3), (4, .long r_2), (0, .ref (L (nm 0 10))), (1, .int o), (2, .long v)]) hx hb dX4_reckons_79 hl (by decide) rfl (fun ls hl => ?_)
    refine lv_aload_n hx hb dX4_reckons_81 rfl (lv_at hl 2 rfl) ?_
    refine lv_lload hx hb dX4_reckons_82 (lv_at hl 0 rfl) ?_
    refine lv_lload hx hb dX4_reckons_84 (lv_at hl 1 rfl) ?_
    refine m_lcmp_ge (tgt := 94) hx hb dX4_reckons_86 dX4_reckons_87 (by decide) (fun c_4 => ?_) (fun c_4 => ?_)
    · skip
      refine lv_lconst (v := 0) hx hb dX4_reckons_94 (by decide) ?_
      refine m_callv (m_runV (i := nm 0 10) (ci := 3) (As := [.long 0]) (rest := []) X (k_X4_push Γ l L c_3 0 hI) v_X4_push ml_X4_112 hw hS rfl rfl rfl rfl hl.1 ⟨Nat.le_of_ble_eq_true rfl, Nat.le_of_ble_eq_true rfl⟩ (Nat.le_of_ble_eq_true rfl) ⟨Nat.le_of_ble_eq_true rfl, Nat.le_of_ble_eq_true rfl⟩ dX4_reckons_95) hS (fun L1 M1 H locs hp_5 hw hS => ?_)
      obtain ⟨e1, c_5, e2, hI_5, hk_5⟩ := hp_5
      rw [e1, e2] at hw; clear e1 e2
      have hk := hk.tr hk_5
      have hI := hI_5
      refine lv_iconst (v := 0) hx hb dX4_reckons_98 (by decide) ?_
      exact m_iret X hr hlk hw hS (Nat.le_of_ble_eq_true rfl) (Nat.le_of_ble_eq_true rfl) ⟨rfl, _, rfl, hI, hk⟩ dX4_reckons_99
    · skip
      refine lv_lconst (v := 1) hx hb dX4_reckons_90 (by decide) ?_
      refine lv_goto (tgt := 95) hx hb dX4_reckons_91 (by decide) ?_
      refine m_callv (m_runV (i := nm 0 10) (ci := 3) (As := [.long 1]) (rest := []) X (k_X4_push Γ l L c_3 1 hI) v_X4_push ml_X4_112 hw hS rfl rfl rfl rfl hl.1 ⟨Nat.le_of_ble_eq_true rfl, Nat.le_of_ble_eq_true rfl⟩ (Nat.le_of_ble_eq_true rfl) ⟨Nat.le_of_ble_eq_true rfl, Nat.le_of_ble_eq_true rfl⟩ dX4_reckons_95) hS (fun L1 M1 H locs hp_6 hw hS => ?_)
      obtain ⟨e1, c_6, e2, hI_6, hk_6⟩ := hp_6
      rw [e1, e2] at hw; clear e1 e2
      have hk := hk.tr hk_6
      have hI := hI_6
      refine lv_iconst (v := 0) hx hb dX4_reckons_98 (by decide) ?_
      exact m_iret X hr hlk hw hS (Nat.le_of_ble_eq_true rfl) (Nat.le_of_ble_eq_true rfl) ⟨rfl, _, rfl, hI, hk⟩ dX4_reckons_99
  · have c_1b : o.toInt = 7 ∨ o.toInt = 8 ∨ o.toInt = 9 ∨ o.toInt = 10 := by omega
    rcases c_1b with c_1v | c_1v | c_1v | c_1v
    · have c_1e : o = 7 := Int32.toInt_inj.mp c_1v
      refine lv_tableIn (off := 31) (tgt := 32) hx hb dX4_reckons_1 (by omega) (by omega) (by rw [c_1v]; rfl) (by decide) ?_
      refine lv_aload_n hx hb dX4_reckons_32 rfl (lv_at hl 0 rfl) ?_
      refine lv_lload_n hx hb dX4_reckons_33 rfl (lv_at hl 2 rfl) ?_
      refine lv_l2i (v := v.toInt32) hx hb dX4_reckons_34 rfl ?_
      refine m_calli (m_runV (i := nm 0 10) (ci := 3) (As := [.int v.toInt32]) (rest := []) X (k_X4_relatesInts Γ l L x v.toInt32 hI) v_X4_relatesInts ml_X4_156 hw hS rfl rfl rfl rfl hl.1 ⟨Nat.le_of_ble_eq_true rfl, Nat.le_of_ble_eq_true rfl⟩ (Nat.le_of_ble_eq_true rfl) ⟨Nat.le_of_ble_eq_true rfl, Nat.le_of_ble_eq_true rfl⟩ dX4_reckons_35) hS (fun r_7 L1 M1 H locs hp_7 hw hS => ?_)
      obtain ⟨e1, c_7, e2, hI_7, hk_7⟩ := hp_7
      rw [e1, e2] at hw; clear e1 e2
      have hk := hk.tr hk_7
      have hI := hI_7
      exact m_iret X hr hlk hw hS (Nat.le_of_ble_eq_true rfl) (Nat.le_of_ble_eq_true rfl) ⟨rfl, _, rfl, hI, hk⟩ dX4_reckons_38
    · have c_1e : o = 8 := Int32.toInt_inj.mp c_1v
      refine lv_tableIn (off := 38) (tgt := 39) hx hb dX4_reckons_1 (by omega) (by omega) (by rw [c_1v]; rfl) (by decide) ?_
      refine lv_aload_n hx hb dX4_reckons_39 rfl (lv_at hl 0 rfl) ?_
      refine lv_lload_n hx hb dX4_reckons_40 rfl (lv_at hl 2 rfl) ?_
      refine lv_l2i (v := v.toInt32) hx hb dX4_reckons_41 rfl ?_
      refine m_calli (m_runV (i := nm 0 10) (ci := 3) (As := [.int v.toInt32]) (rest := []) X (k_X4_relatesLongs Γ l L x v.toInt32 hI) v_X4_relatesLongs ml_X4_159 hw hS rfl rfl rfl rfl hl.1 ⟨Nat.le_of_ble_eq_true rfl, Nat.le_of_ble_eq_true rfl⟩ (Nat.le_of_ble_eq_true rfl) ⟨Nat.le_of_ble_eq_true rfl, Nat.le_of_ble_eq_true rfl⟩ dX4_reckons_42) hS (fun r_8 L1 M1 H locs hp_8 hw hS => ?_)
      obtain ⟨e1, c_8, e2, hI_8, hk_8⟩ := hp_8
      rw [e1, e2] at hw; clear e1 e2
      have hk := hk.tr hk_8
      have hI := hI_8
      exact m_iret X hr hlk hw hS (Nat.le_of_ble_eq_true rfl) (Nat.le_of_ble_eq_true rfl) ⟨rfl, _, rfl, hI, hk⟩ dX4_reckons_45
    · have c_1e : o = 9 := Int32.toInt_inj.mp c_1v
      refine lv_tableIn (off := 45) (tgt := 46) hx hb dX4_reckons_1 (by omega) (by omega) (by rw [c_1v]; rfl) (by decide) ?_
      refine lv_aload_n hx hb dX4_reckons_46 rfl (lv_at hl 0 rfl) ?_
      refine lv_aload_n hx hb dX4_reckons_47 rfl (lv_at hl 0 rfl) ?_
      refine m_calli (m_runV (i := nm 0 10) (ci := 3) (As := []) (rest := [.ref (L (nm 0 10))]) X (k_X4_popInt Γ l L x  hI) v_X4_popInt ml_X4_162 hw hS rfl rfl rfl rfl hl.1 ⟨Nat.le_of_ble_eq_true rfl, Nat.le_of_ble_eq_true rfl⟩ (Nat.le_of_ble_eq_true rfl) ⟨Nat.le_of_ble_eq_true rfl, Nat.le_of_ble_eq_true rfl⟩ dX4_reckons_48) hS (fun r_9 L1 M1 H locs hp_9 hw hS => ?_)
      obtain ⟨e1, c_9, e2, hI_9, hk_9⟩ := hp_9
      rw [e1, e2] at hw; clear e1 e2
      have hk := hk.tr hk_9
      have hI := hI_9
      refine lv_i2l (v := r_9.toInt64) hx hb dX4_reckons_51 rfl ?_
      refine m_callv (m_runV (i := nm 0 10) (ci := 3) (As := [.long r_9.toInt64]) (rest := []) X (k_X4_pushLong Γ l L c_9 r_9.toInt64 hI) v_X4_pushLong ml_X4_148 hw hS rfl rfl rfl rfl hl.1 ⟨Nat.le_of_ble_eq_true rfl, Nat.le_of_ble_eq_true rfl⟩ (Nat.le_of_ble_eq_true rfl) ⟨Nat.le_of_ble_eq_true rfl, Nat.le_of_ble_eq_true rfl⟩ dX4_reckons_52) hS (fun L1 M1 H locs hp_10 hw hS => ?_)
      obtain ⟨e1, c_10, e2, hI_10, hk_10⟩ := hp_10
      rw [e1, e2] at hw; clear e1 e2
      have hk := hk.tr hk_10
      have hI := hI_10
      refine lv_iconst (v := 0) hx hb dX4_reckons_55 (by decide) ?_
      exact m_iret X hr hlk hw hS (Nat.le_of_ble_eq_true rfl) (Nat.le_of_ble_eq_true rfl) ⟨rfl, _, rfl, hI, hk⟩ dX4_reckons_56
    · have c_1e : o = 10 := Int32.toInt_inj.mp c_1v
      refine lv_tableIn (off := 56) (tgt := 57) hx hb dX4_reckons_1 (by omega) (by omega) (by rw [c_1v]; rfl) (by decide) ?_
      refine lv_aload_n hx hb dX4_reckons_57 rfl (lv_at hl 0 rfl) ?_
      refine lv_aload_n hx hb dX4_reckons_58 rfl (lv_at hl 0 rfl) ?_
      refine m_calll (m_runV (i := nm 0 10) (ci := 3) (As := []) (rest := [.ref (L (nm 0 10))]) X (k_X4_popLong Γ l L x  hI) v_X4_popLong ml_X4_153 hw hS rfl rfl rfl rfl hl.1 ⟨Nat.le_of_ble_eq_true rfl, Nat.le_of_ble_eq_true rfl⟩ (Nat.le_of_ble_eq_true rfl) ⟨Nat.le_of_ble_eq_true rfl, Nat.le_of_ble_eq_true rfl⟩ dX4_reckons_59) hS (fun r_11 L1 M1 H locs hp_11 hw hS => ?_)
      obtain ⟨e1, c_11, e2, hI_11, hk_11⟩ := hp_11
      rw [e1, e2] at hw; clear e1 e2
      have hk := hk.tr hk_11
      have hI := hI_11
      refine lv_l2i (v := r_11.toInt32) hx hb dX4_reckons_62 rfl ?_
      refine lv_i2l (v := r_11.toInt32.toInt64) hx hb dX4_reckons_63 rfl ?_
      refine m_callv (m_runV (i := nm 0 10) (ci := 3) (As := [.long r_11.toInt32.toInt64]) (rest := []) X (k_X4_push Γ l L c_11 r_11.toInt32.toInt64 hI) v_X4_push ml_X4_112 hw hS rfl rfl rfl rfl hl.1 ⟨Nat.le_of_ble_eq_true rfl, Nat.le_of_ble_eq_true rfl⟩ (Nat.le_of_ble_eq_true rfl) ⟨Nat.le_of_ble_eq_true rfl, Nat.le_of_ble_eq_true rfl⟩ dX4_reckons_64) hS (fun L1 M1 H locs hp_12 hw hS => ?_)
      obtain ⟨e1, c_12, e2, hI_12, hk_12⟩ := hp_12
      rw [e1, e2] at hw; clear e1 e2
      have hk := hk.tr hk_12
      have hI := hI_12
      refine lv_iconst (v := 0) hx hb dX4_reckons_67 (by decide) ?_
      exact m_iret X hr hlk hw hS (Nat.le_of_ble_eq_true rfl) (Nat.le_of_ble_eq_true rfl) ⟨rfl, _, rfl, hI, hk⟩ dX4_reckons_68
theorem v_X4_moves : mVm yX4_moves cX4_moves 5 (some .int) 2 := ⟨cd_X4_moves, im_X4_moves, se_X4_moves, ini_X4, by decide, by decide, by decide +kernel⟩
set_option maxHeartbeats 4000000 in
set_option maxRecDepth 100000 in
theorem k_X4_moves (Γ : mG) (l : Launch) (L : mI → Nat) (x : CS) (o : Int32) (v : Int64) (hI : CInv x) : mMet Γ l yX4_moves cX4_moves 5 (some .int) { frames := 2, cells := 0, slots := 0, locals := 44 } [.ref (L (nm 0 10)), .int o, .long v] L (cM Γ L x) (mQi Γ (fun _ => mKl Γ L x)) := by
  refine m_start (by decide) (Nat.le_of_ble_eq_true rfl) ?_
  intro p e s m args below meth c A ls X hr hlk hnm hw hS hl
  have hx := X.1.1
  have hb := X.1.2.1
  have hl : lv_has ls 5 [(0, .ref (L (nm 0 10))), (1, .int o), (2, .long v)] := hl
  have hk : kl x x := kl.rf
  refine lv_iload_n hx hb dX4_moves_0 rfl (lv_at hl 1 rfl) ?_
  by_cases c_1 : o.toInt < 0 ∨ 2 < o.toInt
  · refine lv_tableOut (tgt := 51) hx hb dX4_moves_1 c_1 (by decide) ?_
    refine lv_lload_n hx hb dX4_moves_51 rfl (lv_at hl 2 rfl) ?_
    refine lv_lconst (v := 0) hx hb dX4_moves_52 (by decide) ?_
    refine m_lcmp_lt (tgt := 65) hx hb dX4_moves_53 dX4_moves_54 (by decide) (fun c_2 => ?_) (fun c_2 => ?_)
    · skip
      refine lv_iconst (v := 0) hx hb dX4_moves_65 (by decide) ?_
      exact m_iret X hr hlk hw hS (Nat.le_of_ble_eq_true rfl) (Nat.le_of_ble_eq_true rfl) ⟨rfl, _, rfl, hI, hk⟩ dX4_moves_66
    · skip
      refine lv_lload_n hx hb dX4_moves_57 rfl (lv_at hl 2 rfl) ?_
      refine lv_ldc2 (v := (8)) hx hb X.1.2.2.2.1 (X.1.2.2.2.2 _ kl_X4_151) dX4_moves_58 ?_
      refine m_lcmp_lt (tgt := 67) hx hb dX4_moves_61 dX4_moves_62 (by decide) (fun c_3 => ?_) (fun c_3 => ?_)
      · skip
        obtain ⟨an, han, ean, eav⟩ := l_nat (n := 8) (by decide) (by assumption) (by assumption)
        refine lv_aload_n hx hb dX4_moves_67 rfl (lv_at hl 0 rfl) ?_
        refine s_get (a := 0) (b := 10) (ci := 3) X hw rfl rfl gX4 6 (by decide) fl_X4_50 rfl rfl dX4_moves_68 ?_
        obtain ⟨z_4, hz_4, ez_4⟩ := hI.2.2.2.1
        refine lv_bipush (v := 8) hx hb dX4_moves_71 (by decide) ?_
        refine lv_imul hx hb dX4_moves_73 ?_
        refine lv_lload_n hx hb dX4_moves_74 rfl (lv_at hl 2 rfl) ?_
        refine lv_l2i (v := v.toInt32) hx hb dX4_moves_75 rfl ?_
        refine lv_iadd hx hb dX4_moves_76 ?_
        refine lv_istore (lv' := [(4, .int (((x.1 0 10 6) * 8) + v.toInt32)), (0, .ref (L (nm 0 10))), (1, .int o), (2, .long v)]) hx hb dX4_moves_77 hl (by decide) rfl (fun ls hl => ?_)
        refine lv_iload_n hx hb dX4_moves_79 rfl (lv_at hl 2 rfl) ?_
        by_cases c_5 : o.toInt < 3 ∨ 5 < o.toInt
        · refine lv_tableOut (tgt := 147) hx hb dX4_moves_80 c_5 (by decide) ?_
          refine lv_aload_n hx hb dX4_moves_147 rfl (lv_at hl 1 rfl) ?_
          refine s_get (a := 0) (b := 10) (ci := 3) X hw rfl rfl gX4 4 (by decide) fl_X4_35 rfl rfl dX4_moves_148 ?_
          refine lv_iload hx hb dX4_moves_151 (lv_at hl 0 rfl) ?_
          refine lv_aload_n hx hb dX4_moves_153 rfl (lv_at hl 1 rfl) ?_
          refine m_calll (m_runV (i := nm 0 10) (ci := 3) (As := []) (rest := [.int (((x.1 0 10 6) * 8) + v.toInt32), .ref (L (nm 0 19))]) X (k_X4_popLong Γ l L x  hI) v_X4_popLong ml_X4_153 hw hS rfl rfl rfl rfl hl.1 ⟨Nat.le_of_ble_eq_true rfl, Nat.le_of_ble_eq_true rfl⟩ (Nat.le_of_ble_eq_true rfl) ⟨Nat.le_of_ble_eq_true rfl, Nat.le_of_ble_eq_true rfl⟩ dX4_moves_154) hS (fun r_6 L1 M1 H locs hp_6 hw hS => ?_)
          obtain ⟨e1, c_6, e2, hI_6, hk_6⟩ := hp_6
          rw [e1, e2] at hw; clear e1 e2
          have ez_6 : c_6.1 0 10 6 = nI z_4 := hk_6.2.trans ez_4
          have hk := hk.tr hk_6
          have hI := hI_6
          refine s_last (n := 64) (k := (z_4 * 8) + an) (v := r_6) X hw hS (fun _ => rfl) (nadd (a := z_4 * 8) (b := an) (nmul (a := z_4) (b := 8) ez_4 rfl) ean) (by omega) (by decide) dX4_moves_157 (fun H locs hw hS => ?_)
          have hI := CInv.putJ (a := 0) (b := 19) (j := (z_4 * 8) + an) (v := r_6) hI
          have hk := hk.putJ (a := 0) (b := 19) (j := (z_4 * 8) + an) (v := r_6) (by omega)
          refine lv_iconst (v := 0) hx hb dX4_moves_158 (by decide) ?_
          exact m_iret X hr hlk hw hS (Nat.le_of_ble_eq_true rfl) (Nat.le_of_ble_eq_true rfl) ⟨rfl, _, rfl, hI, hk⟩ dX4_moves_159
        · have c_5b : o.toInt = 3 ∨ o.toInt = 4 ∨ o.toInt = 5 := by omega
          rcases c_5b with c_5v | c_5v | c_5v
          · have c_5e : o = 3 := Int32.toInt_inj.mp c_5v
            refine lv_tableIn (off := 28) (tgt := 108) hx hb dX4_moves_80 (by omega) (by omega) (by rw [c_5v]; rfl) (by decide) ?_
            refine lv_aload_n hx hb dX4_moves_108 rfl (lv_at hl 1 rfl) ?_
            refine lv_aload_n hx hb dX4_moves_109 rfl (lv_at hl 1 rfl) ?_
            refine s_get (a := 0) (b := 10) (ci := 3) X hw rfl rfl gX4 4 (by decide) fl_X4_35 rfl rfl dX4_moves_110 ?_
            refine lv_iload hx hb dX4_moves_113 (lv_at hl 0 rfl) ?_
            refine s_lald (n := 64) (k := (z_4 * 8) + an) X hw rfl (nadd (a := z_4 * 8) (b := an) (nmul (a := z_4) (b := 8) ez_4 rfl) ean) (by omega) (by decide) dX4_moves_115 ?_
            refine m_callv (m_runV (i := nm 0 10) (ci := 3) (As := [.long (x.2.2.1 0 19 ((z_4 * 8) + an))]) (rest := []) X (k_X4_push Γ l L x (x.2.2.1 0 19 ((z_4 * 8) + an)) hI) v_X4_push ml_X4_112 hw hS rfl rfl rfl rfl hl.1 ⟨Nat.le_of_ble_eq_true rfl, Nat.le_of_ble_eq_true rfl⟩ (Nat.le_of_ble_eq_true rfl) ⟨Nat.le_of_ble_eq_true rfl, Nat.le_of_ble_eq_true rfl⟩ dX4_moves_116) hS (fun L1 M1 H locs hp_7 hw hS => ?_)
            obtain ⟨e1, c_7, e2, hI_7, hk_7⟩ := hp_7
            rw [e1, e2] at hw; clear e1 e2
            have ez_7 : c_7.1 0 10 6 = nI z_4 := hk_7.2.trans ez_4
            have hk := hk.tr hk_7
            have hI := hI_7
            refine lv_iconst (v := 0) hx hb dX4_moves_119 (by decide) ?_
            exact m_iret X hr hlk hw hS (Nat.le_of_ble_eq_true rfl) (Nat.le_of_ble_eq_true rfl) ⟨rfl, _, rfl, hI, hk⟩ dX4_moves_120
          · have c_5e : o = 4 := Int32.toInt_inj.mp c_5v
            refine lv_tableIn (off := 41) (tgt := 121) hx hb dX4_moves_80 (by omega) (by omega) (by rw [c_5v]; rfl) (by decide) ?_
            refine lv_aload_n hx hb dX4_moves_121 rfl (lv_at hl 1 rfl) ?_
            refine s_get (a := 0) (b := 10) (ci := 3) X hw rfl rfl gX4 4 (by decide) fl_X4_35 rfl rfl dX4_moves_122 ?_
            refine lv_iload hx hb dX4_moves_125 (lv_at hl 0 rfl) ?_
            refine lv_aload_n hx hb dX4_moves_127 rfl (lv_at hl 1 rfl) ?_
            refine m_calll (m_runV (i := nm 0 10) (ci := 3) (As := []) (rest := [.int (((x.1 0 10 6) * 8) + v.toInt32), .ref (L (nm 0 19))]) X (k_X4_pop Γ l L x  hI) v_X4_pop ml_X4_116 hw hS rfl rfl rfl rfl hl.1 ⟨Nat.le_of_ble_eq_true rfl, Nat.le_of_ble_eq_true rfl⟩ (Nat.le_of_ble_eq_true rfl) ⟨Nat.le_of_ble_eq_true rfl, Nat.le_of_ble_eq_true rfl⟩ dX4_moves_128) hS (fun r_8 L1 M1 H locs hp_8 hw hS => ?_)
            obtain ⟨e1, c_8, e2, hI_8, hk_8⟩ := hp_8
            rw [e1, e2] at hw; clear e1 e2
            have ez_8 : c_8.1 0 10 6 = nI z_4 := hk_8.2.trans ez_4
            have hk := hk.tr hk_8
            have hI := hI_8
            refine s_last (n := 64) (k := (z_4 * 8) + an) (v := r_8) X hw hS (fun _ => rfl) (nadd (a := z_4 * 8) (b := an) (nmul (a := z_4) (b := 8) ez_4 rfl) ean) (by omega) (by decide) dX4_moves_131 (fun H locs hw hS => ?_)
            have hI := CInv.putJ (a := 0) (b := 19) (j := (z_4 * 8) + an) (v := r_8) hI
            have hk := hk.putJ (a := 0) (b := 19) (j := (z_4 * 8) + an) (v := r_8) (by omega)
            refine lv_iconst (v := 0) hx hb dX4_moves_132 (by decide) ?_
            exact m_iret X hr hlk hw hS (Nat.le_of_ble_eq_true rfl) (Nat.le_of_ble_eq_true rfl) ⟨rfl, _, rfl, hI, hk⟩ dX4_moves_133
          · have c_5e : o = 5 := Int32.toInt_inj.mp c_5v
            refine lv_tableIn (off := 54) (tgt := 134) hx hb dX4_moves_80 (by omega) (by omega) (by rw [c_5v]; rfl) (by decide) ?_
            refine lv_aload_n hx hb dX4_moves_134 rfl (lv_at hl 1 rfl) ?_
            refine lv_aload_n hx hb dX4_moves_135 rfl (lv_at hl 1 rfl) ?_
            refine s_get (a := 0) (b := 10) (ci := 3) X hw rfl rfl gX4 4 (by decide) fl_X4_35 rfl rfl dX4_moves_136 ?_
            refine lv_iload hx hb dX4_moves_139 (lv_at hl 0 rfl) ?_
            refine s_lald (n := 64) (k := (z_4 * 8) + an) X hw rfl (nadd (a := z_4 * 8) (b := an) (nmul (a := z_4) (b := 8) ez_4 rfl) ean) (by omega) (by decide) dX4_moves_141 ?_
            refine m_callv (m_runV (i := nm 0 10) (ci := 3) (As := [.long (x.2.2.1 0 19 ((z_4 * 8) + an))]) (rest := []) X (k_X4_pushLong Γ l L x (x.2.2.1 0 19 ((z_4 * 8) + an)) hI) v_X4_pushLong ml_X4_148 hw hS rfl rfl rfl rfl hl.1 ⟨Nat.le_of_ble_eq_true rfl, Nat.le_of_ble_eq_true rfl⟩ (Nat.le_of_ble_eq_true rfl) ⟨Nat.le_of_ble_eq_true rfl, Nat.le_of_ble_eq_true rfl⟩ dX4_moves_142) hS (fun L1 M1 H locs hp_9 hw hS => ?_)
            obtain ⟨e1, c_9, e2, hI_9, hk_9⟩ := hp_9
            rw [e1, e2] at hw; clear e1 e2
            have ez_9 : c_9.1 0 10 6 = nI z_4 := hk_9.2.trans ez_4
            have hk := hk.tr hk_9
            have hI := hI_9
            refine lv_iconst (v := 0) hx hb dX4_moves_145 (by decide) ?_
            exact m_iret X hr hlk hw hS (Nat.le_of_ble_eq_true rfl) (Nat.le_of_ble_eq_true rfl) ⟨rfl, _, rfl, hI, hk⟩ dX4_moves_146
      · skip
        refine lv_iconst (v := 0) hx hb dX4_moves_65 (by decide) ?_
        exact m_iret X hr hlk hw hS (Nat.le_of_ble_eq_true rfl) (Nat.le_of_ble_eq_true rfl) ⟨rfl, _, rfl, hI, hk⟩ dX4_moves_66
  · have c_1b : o.toInt = 0 ∨ o.toInt = 1 ∨ o.toInt = 2 := by omega
    rcases c_1b with c_1v | c_1v | c_1v
    · have c_1e : o = 0 := Int32.toInt_inj.mp c_1v
      refine lv_tableIn (off := 27) (tgt := 28) hx hb dX4_moves_1 (by omega) (by omega) (by rw [c_1v]; rfl) (by decide) ?_
      refine lv_aload_n hx hb dX4_moves_28 rfl (lv_at hl 0 rfl) ?_
      refine lv_lload_n hx hb dX4_moves_29 rfl (lv_at hl 2 rfl) ?_
      refine lv_l2i (v := v.toInt32) hx hb dX4_moves_30 rfl ?_
      refine lv_i2l (v := v.toInt32.toInt64) hx hb dX4_moves_31 rfl ?_
      refine m_callv (m_runV (i := nm 0 10) (ci := 3) (As := [.long v.toInt32.toInt64]) (rest := []) X (k_X4_push Γ l L x v.toInt32.toInt64 hI) v_X4_push ml_X4_112 hw hS rfl rfl rfl rfl hl.1 ⟨Nat.le_of_ble_eq_true rfl, Nat.le_of_ble_eq_true rfl⟩ (Nat.le_of_ble_eq_true rfl) ⟨Nat.le_of_ble_eq_true rfl, Nat.le_of_ble_eq_true rfl⟩ dX4_moves_32) hS (fun L1 M1 H locs hp_10 hw hS => ?_)
      obtain ⟨e1, c_10, e2, hI_10, hk_10⟩ := hp_10
      rw [e1, e2] at hw; clear e1 e2
      have hk := hk.tr hk_10
      have hI := hI_10
      refine lv_iconst (v := 0) hx hb dX4_moves_35 (by decide) ?_
      exact m_iret X hr hlk hw hS (Nat.le_of_ble_eq_true rfl) (Nat.le_of_ble_eq_true rfl) ⟨rfl, _, rfl, hI, hk⟩ dX4_moves_36
    · have c_1e : o = 1 := Int32.toInt_inj.mp c_1v
      refine lv_tableIn (off := 36) (tgt := 37) hx hb dX4_moves_1 (by omega) (by omega) (by rw [c_1v]; rfl) (by decide) ?_
      refine lv_aload_n hx hb dX4_moves_37 rfl (lv_at hl 0 rfl) ?_
      refine lv_lload_n hx hb dX4_moves_38 rfl (lv_at hl 2 rfl) ?_
      refine m_callv (m_runV (i := nm 0 10) (ci := 3) (As := [.long v]) (rest := []) X (k_X4_pushLong Γ l L x v hI) v_X4_pushLong ml_X4_148 hw hS rfl rfl rfl rfl hl.1 ⟨Nat.le_of_ble_eq_true rfl, Nat.le_of_ble_eq_true rfl⟩ (Nat.le_of_ble_eq_true rfl) ⟨Nat.le_of_ble_eq_true rfl, Nat.le_of_ble_eq_true rfl⟩ dX4_moves_39) hS (fun L1 M1 H locs hp_11 hw hS => ?_)
      obtain ⟨e1, c_11, e2, hI_11, hk_11⟩ := hp_11
      rw [e1, e2] at hw; clear e1 e2
      have hk := hk.tr hk_11
      have hI := hI_11
      refine lv_iconst (v := 0) hx hb dX4_moves_42 (by decide) ?_
      exact m_iret X hr hlk hw hS (Nat.le_of_ble_eq_true rfl) (Nat.le_of_ble_eq_true rfl) ⟨rfl, _, rfl, hI, hk⟩ dX4_moves_43
    · have c_1e : o = 2 := Int32.toInt_inj.mp c_1v
      refine lv_tableIn (off := 43) (tgt := 44) hx hb dX4_moves_1 (by omega) (by omega) (by rw [c_1v]; rfl) (by decide) ?_
      refine lv_aload_n hx hb dX4_moves_44 rfl (lv_at hl 0 rfl) ?_
      refine lv_lconst (v := 0) hx hb dX4_moves_45 (by decide) ?_
      refine m_callv (m_runV (i := nm 0 10) (ci := 3) (As := [.long 0]) (rest := []) X (k_X4_push Γ l L x 0 hI) v_X4_push ml_X4_112 hw hS rfl rfl rfl rfl hl.1 ⟨Nat.le_of_ble_eq_true rfl, Nat.le_of_ble_eq_true rfl⟩ (Nat.le_of_ble_eq_true rfl) ⟨Nat.le_of_ble_eq_true rfl, Nat.le_of_ble_eq_true rfl⟩ dX4_moves_46) hS (fun L1 M1 H locs hp_12 hw hS => ?_)
      obtain ⟨e1, c_12, e2, hI_12, hk_12⟩ := hp_12
      rw [e1, e2] at hw; clear e1 e2
      have hk := hk.tr hk_12
      have hI := hI_12
      refine lv_iconst (v := 0) hx hb dX4_moves_49 (by decide) ?_
      exact m_iret X hr hlk hw hS (Nat.le_of_ble_eq_true rfl) (Nat.le_of_ble_eq_true rfl) ⟨rfl, _, rfl, hI, hk⟩ dX4_moves_50
theorem v_X4_pushNew : mVm yX4_pushNew cX4_pushNew 4 (some .int) 2 := ⟨cd_X4_pushNew, im_X4_pushNew, se_X4_pushNew, ini_X4, by decide, by decide, by decide +kernel⟩
set_option maxHeartbeats 4000000 in
set_option maxRecDepth 100000 in
theorem k_X4_pushNew (Γ : mG) (l : Launch) (L : mI → Nat) (x : CS) (k : Int32) (w : Int32) (hI : CInv x) : mMet Γ l yX4_pushNew cX4_pushNew 4 (some .int) { frames := 1, cells := 0, slots := 0, locals := 23 } [.ref (L (nm 0 10)), .int k, .int w] L (cM Γ L x) (mQi Γ (fun _ => mKl Γ L x)) := by
  refine m_start (by decide) (Nat.le_of_ble_eq_true rfl) ?_
  intro p e s m args below meth c A ls X hr hlk hnm hw hS hl
  have hx := X.1.1
  have hb := X.1.2.1
  have hl : lv_has ls 4 [(0, .ref (L (nm 0 10))), (1, .int k), (2, .int w)] := hl
  have hk : kl x x := kl.rf
  refine lv_iload_n hx hb dX4_pushNew_0 rfl (lv_at hl 2 rfl) ?_
  refine lv_if_ge (tgt := 6) hx hb dX4_pushNew_1 (by decide) (fun c_1 => ?_) (fun c_1 => ?_)
  · skip
    refine lv_aload_n hx hb dX4_pushNew_6 rfl (lv_at hl 0 rfl) ?_
    refine s_get (a := 0) (b := 10) (ci := 3) X hw rfl rfl gX4 0 (by decide) fl_X4_14 rfl rfl dX4_pushNew_7 ?_
    refine lv_iload_n hx hb dX4_pushNew_10 rfl (lv_at hl 1 rfl) ?_
    refine lv_iload_n hx hb dX4_pushNew_11 rfl (lv_at hl 2 rfl) ?_
    refine m_calli (m_runV (i := nm 0 11) (ci := 1) (As := [.int k, .int w]) (rest := []) X (k_X1_make Γ l L x k w hI) v_X1_make ml_X4_175 hw hS rfl rfl rfl rfl hl.1 ⟨Nat.le_of_ble_eq_true rfl, Nat.le_of_ble_eq_true rfl⟩ (Nat.le_of_ble_eq_true rfl) ⟨Nat.le_of_ble_eq_true rfl, Nat.le_of_ble_eq_true rfl⟩ dX4_pushNew_12) hS (fun r_2 L1 M1 H locs hp_2 hw hS => ?_)
    obtain ⟨e1, c_2, e2, hI_2, hk_2⟩ := hp_2
    rw [e1, e2] at hw; clear e1 e2
    have hk := hk.tr hk_2
    have hI := hI_2
    refine lv_istore_n (lv' := [(3, .int r_2), (0, .ref (L (nm 0 10))), (1, .int k), (2, .int w)]) hx hb dX4_pushNew_15 rfl hl (by decide) rfl (fun ls hl => ?_)
    refine lv_iload_n hx hb dX4_pushNew_16 rfl (lv_at hl 0 rfl) ?_
    refine lv_if_ne (tgt := 29) hx hb dX4_pushNew_17 (by decide) (fun c_3 => ?_) (fun c_3 => ?_)
    · skip
      refine lv_aload_n hx hb dX4_pushNew_29 rfl (lv_at hl 1 rfl) ?_
      refine lv_iload_n hx hb dX4_pushNew_30 rfl (lv_at hl 0 rfl) ?_
      refine lv_i2l (v := r_2.toInt64) hx hb dX4_pushNew_31 rfl ?_
      refine m_callv (m_runV (i := nm 0 10) (ci := 3) (As := [.long r_2.toInt64]) (rest := []) X (k_X4_push Γ l L c_2 r_2.toInt64 hI) v_X4_push ml_X4_112 hw hS rfl rfl rfl rfl hl.1 ⟨Nat.le_of_ble_eq_true rfl, Nat.le_of_ble_eq_true rfl⟩ (Nat.le_of_ble_eq_true rfl) ⟨Nat.le_of_ble_eq_true rfl, Nat.le_of_ble_eq_true rfl⟩ dX4_pushNew_32) hS (fun L1 M1 H locs hp_4 hw hS => ?_)
      obtain ⟨e1, c_4, e2, hI_4, hk_4⟩ := hp_4
      rw [e1, e2] at hw; clear e1 e2
      have hk := hk.tr hk_4
      have hI := hI_4
      refine lv_iconst (v := 0) hx hb dX4_pushNew_35 (by decide) ?_
      exact m_iret X hr hlk hw hS (Nat.le_of_ble_eq_true rfl) (Nat.le_of_ble_eq_true rfl) ⟨rfl, _, rfl, hI, hk⟩ dX4_pushNew_36
    · skip
      refine lv_aload_n hx hb dX4_pushNew_20 rfl (lv_at hl 1 rfl) ?_
      refine lv_bipush (v := 9) hx hb dX4_pushNew_21 (by decide) ?_
      refine lv_iconst (v := 0) hx hb dX4_pushNew_23 (by decide) ?_
      refine m_callv (m_runV (i := nm 0 10) (ci := 3) (As := [.int 9, .int 0]) (rest := []) X (k_X4_end Γ l L c_2 9 0 hI) v_X4_end ml_X4_100 hw hS rfl rfl rfl rfl hl.1 ⟨Nat.le_of_ble_eq_true rfl, Nat.le_of_ble_eq_true rfl⟩ (Nat.le_of_ble_eq_true rfl) ⟨Nat.le_of_ble_eq_true rfl, Nat.le_of_ble_eq_true rfl⟩ dX4_pushNew_24) hS (fun L1 M1 H locs hp_5 hw hS => ?_)
      obtain ⟨e1, c_5, e2, hI_5, hk_5⟩ := hp_5
      rw [e1, e2] at hw; clear e1 e2
      have hk := hk.tr hk_5
      have hI := hI_5
      refine lv_iconst (v := (-1)) hx hb dX4_pushNew_27 (by decide) ?_
      exact m_iret X hr hlk hw hS (Nat.le_of_ble_eq_true rfl) (Nat.le_of_ble_eq_true rfl) ⟨rfl, _, rfl, hI, hk⟩ dX4_pushNew_28
  · skip
    refine lv_iconst (v := 5) hx hb dX4_pushNew_4 (by decide) ?_
    exact m_iret X hr hlk hw hS (Nat.le_of_ble_eq_true rfl) (Nat.le_of_ble_eq_true rfl) ⟨rfl, _, rfl, hI, hk⟩ dX4_pushNew_5
theorem v_X4_makes : mVm yX4_makes cX4_makes 4 (some .int) 2 := ⟨cd_X4_makes, im_X4_makes, se_X4_makes, ini_X4, by decide, by decide, by decide +kernel⟩
set_option maxHeartbeats 4000000 in
set_option maxRecDepth 100000 in
theorem k_X4_makes (Γ : mG) (l : Launch) (L : mI → Nat) (x : CS) (o : Int32) (v : Int64) (hI : CInv x) : mMet Γ l yX4_makes cX4_makes 4 (some .int) { frames := 2, cells := 0, slots := 0, locals := 46 } [.ref (L (nm 0 10)), .int o, .long v] L (cM Γ L x) (mQi Γ (fun _ => mKl Γ L x)) := by
  refine m_start (by decide) (Nat.le_of_ble_eq_true rfl) ?_
  intro p e s m args below meth c A ls X hr hlk hnm hw hS hl
  have hx := X.1.1
  have hb := X.1.2.1
  have hl : lv_has ls 4 [(0, .ref (L (nm 0 10))), (1, .int o), (2, .long v)] := hl
  have hk : kl x x := kl.rf
  refine lv_iload_n hx hb dX4_makes_0 rfl (lv_at hl 1 rfl) ?_
  by_cases c_1 : o.toInt < 12 ∨ 14 < o.toInt
  · refine lv_tableOut (tgt := 56) hx hb dX4_makes_1 c_1 (by decide) ?_
    refine lv_aload_n hx hb dX4_makes_56 rfl (lv_at hl 0 rfl) ?_
    refine lv_bipush (v := 20) hx hb dX4_makes_57 (by decide) ?_
    refine lv_lload_n hx hb dX4_makes_59 rfl (lv_at hl 2 rfl) ?_
    refine lv_l2i (v := v.toInt32) hx hb dX4_makes_60 rfl ?_
    refine lv_iadd hx hb dX4_makes_61 ?_
    refine lv_aload_n hx hb dX4_makes_62 rfl (lv_at hl 0 rfl) ?_
    refine m_calli (m_runV (i := nm 0 10) (ci := 3) (As := []) (rest := [.int (20 + v.toInt32), .ref (L (nm 0 10))]) X (k_X4_popInt Γ l L x  hI) v_X4_popInt ml_X4_162 hw hS rfl rfl rfl rfl hl.1 ⟨Nat.le_of_ble_eq_true rfl, Nat.le_of_ble_eq_true rfl⟩ (Nat.le_of_ble_eq_true rfl) ⟨Nat.le_of_ble_eq_true rfl, Nat.le_of_ble_eq_true rfl⟩ dX4_makes_63) hS (fun r_2 L1 M1 H locs hp_2 hw hS => ?_)
    obtain ⟨e1, c_2, e2, hI_2, hk_2⟩ := hp_2
    rw [e1, e2] at hw; clear e1 e2
    have hk := hk.tr hk_2
    have hI := hI_2
    refine m_calli (m_runV (i := nm 0 10) (ci := 3) (As := [.int (20 + v.toInt32), .int r_2]) (rest := []) X (k_X4_pushNew Γ l L c_2 (20 + v.toInt32) r_2 hI) v_X4_pushNew ml_X4_172 hw hS rfl rfl rfl rfl hl.1 ⟨Nat.le_of_ble_eq_true rfl, Nat.le_of_ble_eq_true rfl⟩ (Nat.le_of_ble_eq_true rfl) ⟨Nat.le_of_ble_eq_true rfl, Nat.le_of_ble_eq_true rfl⟩ dX4_makes_66) hS (fun r_3 L1 M1 H locs hp_3 hw hS => ?_)
    obtain ⟨e1, c_3, e2, hI_3, hk_3⟩ := hp_3
    rw [e1, e2] at hw; clear e1 e2
    have hk := hk.tr hk_3
    have hI := hI_3
    exact m_iret X hr hlk hw hS (Nat.le_of_ble_eq_true rfl) (Nat.le_of_ble_eq_true rfl) ⟨rfl, _, rfl, hI, hk⟩ dX4_makes_69
  · have c_1b : o.toInt = 12 ∨ o.toInt = 13 ∨ o.toInt = 14 := by omega
    rcases c_1b with c_1v | c_1v | c_1v
    · have c_1e : o = 12 := Int32.toInt_inj.mp c_1v
      refine lv_tableIn (off := 27) (tgt := 28) hx hb dX4_makes_1 (by omega) (by omega) (by rw [c_1v]; rfl) (by decide) ?_
      refine lv_aload_n hx hb dX4_makes_28 rfl (lv_at hl 0 rfl) ?_
      refine lv_bipush (v := 10) hx hb dX4_makes_29 (by decide) ?_
      refine lv_lload_n hx hb dX4_makes_31 rfl (lv_at hl 2 rfl) ?_
      refine lv_l2i (v := v.toInt32) hx hb dX4_makes_32 rfl ?_
      refine lv_iadd hx hb dX4_makes_33 ?_
      refine lv_iconst (v := 0) hx hb dX4_makes_34 (by decide) ?_
      refine m_calli (m_runV (i := nm 0 10) (ci := 3) (As := [.int (10 + v.toInt32), .int 0]) (rest := []) X (k_X4_pushNew Γ l L x (10 + v.toInt32) 0 hI) v_X4_pushNew ml_X4_172 hw hS rfl rfl rfl rfl hl.1 ⟨Nat.le_of_ble_eq_true rfl, Nat.le_of_ble_eq_true rfl⟩ (Nat.le_of_ble_eq_true rfl) ⟨Nat.le_of_ble_eq_true rfl, Nat.le_of_ble_eq_true rfl⟩ dX4_makes_35) hS (fun r_4 L1 M1 H locs hp_4 hw hS => ?_)
      obtain ⟨e1, c_4, e2, hI_4, hk_4⟩ := hp_4
      rw [e1, e2] at hw; clear e1 e2
      have hk := hk.tr hk_4
      have hI := hI_4
      exact m_iret X hr hlk hw hS (Nat.le_of_ble_eq_true rfl) (Nat.le_of_ble_eq_true rfl) ⟨rfl, _, rfl, hI, hk⟩ dX4_makes_38
    · have c_1e : o = 13 := Int32.toInt_inj.mp c_1v
      refine lv_tableIn (off := 38) (tgt := 39) hx hb dX4_makes_1 (by omega) (by omega) (by rw [c_1v]; rfl) (by decide) ?_
      refine lv_aload_n hx hb dX4_makes_39 rfl (lv_at hl 0 rfl) ?_
      refine m_calll (m_runV (i := nm 0 10) (ci := 3) (As := []) (rest := []) X (k_X4_pop Γ l L x  hI) v_X4_pop ml_X4_116 hw hS rfl rfl rfl rfl hl.1 ⟨Nat.le_of_ble_eq_true rfl, Nat.le_of_ble_eq_true rfl⟩ (Nat.le_of_ble_eq_true rfl) ⟨Nat.le_of_ble_eq_true rfl, Nat.le_of_ble_eq_true rfl⟩ dX4_makes_40) hS (fun r_5 L1 M1 H locs hp_5 hw hS => ?_)
      obtain ⟨e1, c_5, e2, hI_5, hk_5⟩ := hp_5
      rw [e1, e2] at hw; clear e1 e2
      have hk := hk.tr hk_5
      have hI := hI_5
      refine lv_pop2_2 hx hb dX4_makes_43 rfl ?_
      refine lv_iconst (v := 0) hx hb dX4_makes_44 (by decide) ?_
      exact m_iret X hr hlk hw hS (Nat.le_of_ble_eq_true rfl) (Nat.le_of_ble_eq_true rfl) ⟨rfl, _, rfl, hI, hk⟩ dX4_makes_45
    · have c_1e : o = 14 := Int32.toInt_inj.mp c_1v
      refine lv_tableIn (off := 45) (tgt := 46) hx hb dX4_makes_1 (by omega) (by omega) (by rw [c_1v]; rfl) (by decide) ?_
      refine lv_aload_n hx hb dX4_makes_46 rfl (lv_at hl 0 rfl) ?_
      refine lv_iconst (v := 5) hx hb dX4_makes_47 (by decide) ?_
      refine lv_aload_n hx hb dX4_makes_48 rfl (lv_at hl 0 rfl) ?_
      refine m_calli (m_runV (i := nm 0 10) (ci := 3) (As := []) (rest := [.int 5, .ref (L (nm 0 10))]) X (k_X4_popInt Γ l L x  hI) v_X4_popInt ml_X4_162 hw hS rfl rfl rfl rfl hl.1 ⟨Nat.le_of_ble_eq_true rfl, Nat.le_of_ble_eq_true rfl⟩ (Nat.le_of_ble_eq_true rfl) ⟨Nat.le_of_ble_eq_true rfl, Nat.le_of_ble_eq_true rfl⟩ dX4_makes_49) hS (fun r_6 L1 M1 H locs hp_6 hw hS => ?_)
      obtain ⟨e1, c_6, e2, hI_6, hk_6⟩ := hp_6
      rw [e1, e2] at hw; clear e1 e2
      have hk := hk.tr hk_6
      have hI := hI_6
      refine m_calli (m_runV (i := nm 0 10) (ci := 3) (As := [.int 5, .int r_6]) (rest := []) X (k_X4_pushNew Γ l L c_6 5 r_6 hI) v_X4_pushNew ml_X4_172 hw hS rfl rfl rfl rfl hl.1 ⟨Nat.le_of_ble_eq_true rfl, Nat.le_of_ble_eq_true rfl⟩ (Nat.le_of_ble_eq_true rfl) ⟨Nat.le_of_ble_eq_true rfl, Nat.le_of_ble_eq_true rfl⟩ dX4_makes_52) hS (fun r_7 L1 M1 H locs hp_7 hw hS => ?_)
      obtain ⟨e1, c_7, e2, hI_7, hk_7⟩ := hp_7
      rw [e1, e2] at hw; clear e1 e2
      have hk := hk.tr hk_7
      have hI := hI_7
      exact m_iret X hr hlk hw hS (Nat.le_of_ble_eq_true rfl) (Nat.le_of_ble_eq_true rfl) ⟨rfl, _, rfl, hI, hk⟩ dX4_makes_55
theorem v_X4_usesArray : mVm yX4_usesArray cX4_usesArray 6 (some .int) 1 := ⟨cd_X4_usesArray, im_X4_usesArray, se_X4_usesArray, ini_X4, by decide, by decide, by decide +kernel⟩
set_option maxHeartbeats 4000000 in
set_option maxRecDepth 100000 in
theorem k_X4_usesArray (Γ : mG) (l : Launch) (L : mI → Nat) (x : CS) (o : Int32) (hI : CInv x) : mMet Γ l yX4_usesArray cX4_usesArray 6 (some .int) { frames := 3, cells := 0, slots := 0, locals := 66 } [.ref (L (nm 0 10)), .int o] L (cM Γ L x) (mQi Γ (fun _ => mKl Γ L x)) := by
  refine m_start (by decide) (Nat.le_of_ble_eq_true rfl) ?_
  intro p e s m args below meth c A ls X hr hlk hnm hw hS hl
  have hx := X.1.1
  have hb := X.1.2.1
  have hl : lv_has ls 6 [(0, .ref (L (nm 0 10))), (1, .int o)] := hl
  have hk : kl x x := kl.rf
  have K53 : ∀ (y : CS) (ar ix vl wr : Int32) (H : Heap) (locs : List Loc) (ls : Array Slot), CInv y → kl x y → mW Γ.1 vwCl A L (cM Γ L y) H → va_S A s.heap H locs → lv_has ls 6 [(5, .int ar), (4, .int ix), (3, .int vl), (2, .int wr), (0, .ref (L (nm 0 10))), (1, .int o)] → W p l e { frames := 3, cells := 0, slots := 0, locals := 66 } s m args below meth c H locs 0 0 (MQ below (mQi Γ (fun _ => mKl Γ L x) A) args s 0 0 A) (F0 m 53 ls []) := by
    intro y ar ix vl wr H locs ls hI hk hw hS hl
    refine lv_aload_n hx hb dX4_usesArray_53 rfl (lv_at hl 4 rfl) ?_
    refine s_get (a := 0) (b := 10) (ci := 3) X hw rfl rfl gX4 0 (by decide) fl_X4_14 rfl rfl dX4_usesArray_54 ?_
    refine lv_iload hx hb dX4_usesArray_57 (lv_at hl 0 rfl) ?_
    refine m_calli (m_runV (i := nm 0 11) (ci := 1) (As := [.int ar]) (rest := []) X (k_X1_isNull Γ l L y ar) v_X1_isNull ml_X4_178 hw hS rfl rfl rfl rfl hl.1 ⟨Nat.le_of_ble_eq_true rfl, Nat.le_of_ble_eq_true rfl⟩ (Nat.le_of_ble_eq_true rfl) ⟨Nat.le_of_ble_eq_true rfl, Nat.le_of_ble_eq_true rfl⟩ dX4_usesArray_59) hS (fun r_1 L1 M1 H locs hp_1 hw hS => ?_)
    obtain ⟨rfl, e1, e2⟩ := hp_1
    rw [e1, e2] at hw; clear e1 e2
    refine lv_if_eq (tgt := 67) hx hb dX4_usesArray_62 (by decide) (fun c_2 => ?_) (fun c_2 => ?_)
    · skip
      have c_2 := bI_f c_2
      refine lv_iload_n hx hb dX4_usesArray_67 rfl (lv_at hl 5 rfl) ?_
      refine lv_bipush (v := 16) hx hb dX4_usesArray_68 (by decide) ?_
      refine lv_icmp_ne (tgt := 89) hx hb dX4_usesArray_70 (by decide) (fun c_3 => ?_) (fun c_3 => ?_)
      · skip
        refine lv_aload_n hx hb dX4_usesArray_89 rfl (lv_at hl 4 rfl) ?_
        refine s_get (a := 0) (b := 10) (ci := 3) X hw rfl rfl gX4 0 (by decide) fl_X4_14 rfl rfl dX4_usesArray_90 ?_
        refine lv_iload hx hb dX4_usesArray_93 (lv_at hl 0 rfl) ?_
        refine lv_iload hx hb dX4_usesArray_95 (lv_at hl 1 rfl) ?_
        refine m_calli (m_runV (i := nm 0 11) (ci := 1) (As := [.int ar, .int ix]) (rest := []) X (k_X1_hasItem Γ l L y ar ix hI) v_X1_hasItem ml_X4_185 hw hS rfl rfl rfl rfl hl.1 ⟨Nat.le_of_ble_eq_true rfl, Nat.le_of_ble_eq_true rfl⟩ (Nat.le_of_ble_eq_true rfl) ⟨Nat.le_of_ble_eq_true rfl, Nat.le_of_ble_eq_true rfl⟩ dX4_usesArray_97) hS (fun r_4 L1 M1 H locs hp_4 hw hS => ?_)
        obtain ⟨⟨t_4, rfl, ht_4⟩, e1, e2⟩ := hp_4
        rw [e1, e2] at hw; clear e1 e2
        refine lv_if_ne (tgt := 105) hx hb dX4_usesArray_100 (by decide) (fun c_5 => ?_) (fun c_5 => ?_)
        · skip
          have c_5 := bI_t c_5
          refine lv_iload_n hx hb dX4_usesArray_105 rfl (lv_at hl 5 rfl) ?_
          refine lv_bipush (v := 20) hx hb dX4_usesArray_106 (by decide) ?_
          refine lv_icmp_ne (tgt := 126) hx hb dX4_usesArray_108 (by decide) (fun c_6 => ?_) (fun c_6 => ?_)
          · skip
            refine lv_iload_n hx hb dX4_usesArray_126 rfl (lv_at hl 3 rfl) ?_
            refine lv_if_eq (tgt := 145) hx hb dX4_usesArray_127 (by decide) (fun c_7 => ?_) (fun c_7 => ?_)
            · skip
              refine lv_aload_n hx hb dX4_usesArray_145 rfl (lv_at hl 4 rfl) ?_
              refine lv_aload_n hx hb dX4_usesArray_146 rfl (lv_at hl 4 rfl) ?_
              refine s_get (a := 0) (b := 10) (ci := 3) X hw rfl rfl gX4 0 (by decide) fl_X4_14 rfl rfl dX4_usesArray_147 ?_
              refine lv_iload hx hb dX4_usesArray_150 (lv_at hl 0 rfl) ?_
              refine lv_iload hx hb dX4_usesArray_152 (lv_at hl 1 rfl) ?_
              refine m_calli (m_runV (i := nm 0 11) (ci := 1) (As := [.int ar, .int ix]) (rest := [.ref (L (nm 0 10))]) X (k_X1_item Γ l L y ar ix hI) v_X1_item ml_X4_196 hw hS rfl rfl rfl rfl hl.1 ⟨Nat.le_of_ble_eq_true rfl, Nat.le_of_ble_eq_true rfl⟩ (Nat.le_of_ble_eq_true rfl) ⟨Nat.le_of_ble_eq_true rfl, Nat.le_of_ble_eq_true rfl⟩ dX4_usesArray_154) hS (fun r_8 L1 M1 H locs hp_8 hw hS => ?_)
              obtain ⟨e1, e2⟩ := hp_8
              rw [e1, e2] at hw; clear e1 e2
              refine lv_i2l (v := r_8.toInt64) hx hb dX4_usesArray_157 rfl ?_
              refine m_callv (m_runV (i := nm 0 10) (ci := 3) (As := [.long r_8.toInt64]) (rest := []) X (k_X4_push Γ l L y r_8.toInt64 hI) v_X4_push ml_X4_112 hw hS rfl rfl rfl rfl hl.1 ⟨Nat.le_of_ble_eq_true rfl, Nat.le_of_ble_eq_true rfl⟩ (Nat.le_of_ble_eq_true rfl) ⟨Nat.le_of_ble_eq_true rfl, Nat.le_of_ble_eq_true rfl⟩ dX4_usesArray_158) hS (fun L1 M1 H locs hp_9 hw hS => ?_)
              obtain ⟨e1, c_9, e2, hI_9, hk_9⟩ := hp_9
              rw [e1, e2] at hw; clear e1 e2
              have hk := hk.tr hk_9
              have hI := hI_9
              refine lv_iconst (v := 0) hx hb dX4_usesArray_161 (by decide) ?_
              exact m_iret X hr hlk hw hS (Nat.le_of_ble_eq_true rfl) (Nat.le_of_ble_eq_true rfl) ⟨rfl, _, rfl, hI, hk⟩ dX4_usesArray_162
            · skip
              refine lv_aload_n hx hb dX4_usesArray_130 rfl (lv_at hl 4 rfl) ?_
              refine s_get (a := 0) (b := 10) (ci := 3) X hw rfl rfl gX4 0 (by decide) fl_X4_14 rfl rfl dX4_usesArray_131 ?_
              refine lv_iload hx hb dX4_usesArray_134 (lv_at hl 0 rfl) ?_
              refine lv_iload hx hb dX4_usesArray_136 (lv_at hl 1 rfl) ?_
              refine lv_iload_n hx hb dX4_usesArray_138 rfl (lv_at hl 2 rfl) ?_
              refine m_callv (m_runV (i := nm 0 11) (ci := 1) (As := [.int ar, .int ix, .int vl]) (rest := []) X (k_X1_putItem Γ l L y ar ix vl hI) v_X1_putItem ml_X4_192 hw hS rfl rfl rfl rfl hl.1 ⟨Nat.le_of_ble_eq_true rfl, Nat.le_of_ble_eq_true rfl⟩ (Nat.le_of_ble_eq_true rfl) ⟨Nat.le_of_ble_eq_true rfl, Nat.le_of_ble_eq_true rfl⟩ dX4_usesArray_139) hS (fun L1 M1 H locs hp_10 hw hS => ?_)
              obtain ⟨e1, c_10, e2, hI_10, hk_10⟩ := hp_10
              rw [e1, e2] at hw; clear e1 e2
              have hk := hk.tr hk_10
              have hI := hI_10
              refine lv_goto (tgt := 161) hx hb dX4_usesArray_142 (by decide) ?_
              refine lv_iconst (v := 0) hx hb dX4_usesArray_161 (by decide) ?_
              exact m_iret X hr hlk hw hS (Nat.le_of_ble_eq_true rfl) (Nat.le_of_ble_eq_true rfl) ⟨rfl, _, rfl, hI, hk⟩ dX4_usesArray_162
          · skip
            refine lv_aload_n hx hb dX4_usesArray_111 rfl (lv_at hl 4 rfl) ?_
            refine s_get (a := 0) (b := 10) (ci := 3) X hw rfl rfl gX4 0 (by decide) fl_X4_14 rfl rfl dX4_usesArray_112 ?_
            refine lv_iload hx hb dX4_usesArray_115 (lv_at hl 0 rfl) ?_
            refine lv_iload_n hx hb dX4_usesArray_117 rfl (lv_at hl 2 rfl) ?_
            refine m_calli (m_runV (i := nm 0 11) (ci := 1) (As := [.int ar, .int vl]) (rest := []) X (k_X1_canHold Γ l L y ar vl hI) v_X1_canHold ml_X4_189 hw hS rfl rfl rfl rfl hl.1 ⟨Nat.le_of_ble_eq_true rfl, Nat.le_of_ble_eq_true rfl⟩ (Nat.le_of_ble_eq_true rfl) ⟨Nat.le_of_ble_eq_true rfl, Nat.le_of_ble_eq_true rfl⟩ dX4_usesArray_118) hS (fun r_11 L1 M1 H locs hp_11 hw hS => ?_)
            obtain ⟨⟨t_11, rfl⟩, e1, e2⟩ := hp_11
            rw [e1, e2] at hw; clear e1 e2
            refine lv_if_ne (tgt := 126) hx hb dX4_usesArray_121 (by decide) (fun c_12 => ?_) (fun c_12 => ?_)
            · skip
              have c_12 := bI_t c_12
              refine lv_iload_n hx hb dX4_usesArray_126 rfl (lv_at hl 3 rfl) ?_
              refine lv_if_eq (tgt := 145) hx hb dX4_usesArray_127 (by decide) (fun c_13 => ?_) (fun c_13 => ?_)
              · skip
                refine lv_aload_n hx hb dX4_usesArray_145 rfl (lv_at hl 4 rfl) ?_
                refine lv_aload_n hx hb dX4_usesArray_146 rfl (lv_at hl 4 rfl) ?_
                refine s_get (a := 0) (b := 10) (ci := 3) X hw rfl rfl gX4 0 (by decide) fl_X4_14 rfl rfl dX4_usesArray_147 ?_
                refine lv_iload hx hb dX4_usesArray_150 (lv_at hl 0 rfl) ?_
                refine lv_iload hx hb dX4_usesArray_152 (lv_at hl 1 rfl) ?_
                refine m_calli (m_runV (i := nm 0 11) (ci := 1) (As := [.int ar, .int ix]) (rest := [.ref (L (nm 0 10))]) X (k_X1_item Γ l L y ar ix hI) v_X1_item ml_X4_196 hw hS rfl rfl rfl rfl hl.1 ⟨Nat.le_of_ble_eq_true rfl, Nat.le_of_ble_eq_true rfl⟩ (Nat.le_of_ble_eq_true rfl) ⟨Nat.le_of_ble_eq_true rfl, Nat.le_of_ble_eq_true rfl⟩ dX4_usesArray_154) hS (fun r_14 L1 M1 H locs hp_14 hw hS => ?_)
                obtain ⟨e1, e2⟩ := hp_14
                rw [e1, e2] at hw; clear e1 e2
                refine lv_i2l (v := r_14.toInt64) hx hb dX4_usesArray_157 rfl ?_
                refine m_callv (m_runV (i := nm 0 10) (ci := 3) (As := [.long r_14.toInt64]) (rest := []) X (k_X4_push Γ l L y r_14.toInt64 hI) v_X4_push ml_X4_112 hw hS rfl rfl rfl rfl hl.1 ⟨Nat.le_of_ble_eq_true rfl, Nat.le_of_ble_eq_true rfl⟩ (Nat.le_of_ble_eq_true rfl) ⟨Nat.le_of_ble_eq_true rfl, Nat.le_of_ble_eq_true rfl⟩ dX4_usesArray_158) hS (fun L1 M1 H locs hp_15 hw hS => ?_)
                obtain ⟨e1, c_15, e2, hI_15, hk_15⟩ := hp_15
                rw [e1, e2] at hw; clear e1 e2
                have hk := hk.tr hk_15
                have hI := hI_15
                refine lv_iconst (v := 0) hx hb dX4_usesArray_161 (by decide) ?_
                exact m_iret X hr hlk hw hS (Nat.le_of_ble_eq_true rfl) (Nat.le_of_ble_eq_true rfl) ⟨rfl, _, rfl, hI, hk⟩ dX4_usesArray_162
              · skip
                refine lv_aload_n hx hb dX4_usesArray_130 rfl (lv_at hl 4 rfl) ?_
                refine s_get (a := 0) (b := 10) (ci := 3) X hw rfl rfl gX4 0 (by decide) fl_X4_14 rfl rfl dX4_usesArray_131 ?_
                refine lv_iload hx hb dX4_usesArray_134 (lv_at hl 0 rfl) ?_
                refine lv_iload hx hb dX4_usesArray_136 (lv_at hl 1 rfl) ?_
                refine lv_iload_n hx hb dX4_usesArray_138 rfl (lv_at hl 2 rfl) ?_
                refine m_callv (m_runV (i := nm 0 11) (ci := 1) (As := [.int ar, .int ix, .int vl]) (rest := []) X (k_X1_putItem Γ l L y ar ix vl hI) v_X1_putItem ml_X4_192 hw hS rfl rfl rfl rfl hl.1 ⟨Nat.le_of_ble_eq_true rfl, Nat.le_of_ble_eq_true rfl⟩ (Nat.le_of_ble_eq_true rfl) ⟨Nat.le_of_ble_eq_true rfl, Nat.le_of_ble_eq_true rfl⟩ dX4_usesArray_139) hS (fun L1 M1 H locs hp_16 hw hS => ?_)
                obtain ⟨e1, c_16, e2, hI_16, hk_16⟩ := hp_16
                rw [e1, e2] at hw; clear e1 e2
                have hk := hk.tr hk_16
                have hI := hI_16
                refine lv_goto (tgt := 161) hx hb dX4_usesArray_142 (by decide) ?_
                refine lv_iconst (v := 0) hx hb dX4_usesArray_161 (by decide) ?_
                exact m_iret X hr hlk hw hS (Nat.le_of_ble_eq_true rfl) (Nat.le_of_ble_eq_true rfl) ⟨rfl, _, rfl, hI, hk⟩ dX4_usesArray_162
            · skip
              have c_12 := bI_f c_12
              refine lv_iconst (v := 3) hx hb dX4_usesArray_124 (by decide) ?_
              exact m_iret X hr hlk hw hS (Nat.le_of_ble_eq_true rfl) (Nat.le_of_ble_eq_true rfl) ⟨rfl, _, rfl, hI, hk⟩ dX4_usesArray_125
        · skip
          have c_5 := bI_f c_5
          refine lv_iconst (v := 2) hx hb dX4_usesArray_103 (by decide) ?_
          exact m_iret X hr hlk hw hS (Nat.le_of_ble_eq_true rfl) (Nat.le_of_ble_eq_true rfl) ⟨rfl, _, rfl, hI, hk⟩ dX4_usesArray_104
      · skip
        refine lv_aload_n hx hb dX4_usesArray_73 rfl (lv_at hl 4 rfl) ?_
        refine lv_aload_n hx hb dX4_usesArray_74 rfl (lv_at hl 4 rfl) ?_
        refine s_get (a := 0) (b := 10) (ci := 3) X hw rfl rfl gX4 0 (by decide) fl_X4_14 rfl rfl dX4_usesArray_75 ?_
        refine lv_iload hx hb dX4_usesArray_78 (lv_at hl 0 rfl) ?_
        refine m_calli (m_runV (i := nm 0 11) (ci := 1) (As := [.int ar]) (rest := [.ref (L (nm 0 10))]) X (k_X1_length Γ l L y ar hI) v_X1_length ml_X4_182 hw hS rfl rfl rfl rfl hl.1 ⟨Nat.le_of_ble_eq_true rfl, Nat.le_of_ble_eq_true rfl⟩ (Nat.le_of_ble_eq_true rfl) ⟨Nat.le_of_ble_eq_true rfl, Nat.le_of_ble_eq_true rfl⟩ dX4_usesArray_80) hS (fun r_17 L1 M1 H locs hp_17 hw hS => ?_)
        obtain ⟨e1, e2⟩ := hp_17
        rw [e1, e2] at hw; clear e1 e2
        refine lv_i2l (v := r_17.toInt64) hx hb dX4_usesArray_83 rfl ?_
        refine m_callv (m_runV (i := nm 0 10) (ci := 3) (As := [.long r_17.toInt64]) (rest := []) X (k_X4_push Γ l L y r_17.toInt64 hI) v_X4_push ml_X4_112 hw hS rfl rfl rfl rfl hl.1 ⟨Nat.le_of_ble_eq_true rfl, Nat.le_of_ble_eq_true rfl⟩ (Nat.le_of_ble_eq_true rfl) ⟨Nat.le_of_ble_eq_true rfl, Nat.le_of_ble_eq_true rfl⟩ dX4_usesArray_84) hS (fun L1 M1 H locs hp_18 hw hS => ?_)
        obtain ⟨e1, c_18, e2, hI_18, hk_18⟩ := hp_18
        rw [e1, e2] at hw; clear e1 e2
        have hk := hk.tr hk_18
        have hI := hI_18
        refine lv_iconst (v := 0) hx hb dX4_usesArray_87 (by decide) ?_
        exact m_iret X hr hlk hw hS (Nat.le_of_ble_eq_true rfl) (Nat.le_of_ble_eq_true rfl) ⟨rfl, _, rfl, hI, hk⟩ dX4_usesArray_88
    · skip
      have c_2 := bI_t c_2
      refine lv_iconst (v := 1) hx hb dX4_usesArray_65 (by decide) ?_
      exact m_iret X hr hlk hw hS (Nat.le_of_ble_eq_true rfl) (Nat.le_of_ble_eq_true rfl) ⟨rfl, _, rfl, hI, hk⟩ dX4_usesArray_66
  have K47 : ∀ (y : CS) (ix vl wr : Int32) (H : Heap) (locs : List Loc) (ls : Array Slot), CInv y → kl x y → mW Γ.1 vwCl A L (cM Γ L y) H → va_S A s.heap H locs → lv_has ls 6 [(4, .int ix), (3, .int vl), (2, .int wr), (0, .ref (L (nm 0 10))), (1, .int o)] → W p l e { frames := 3, cells := 0, slots := 0, locals := 66 } s m args below meth c H locs 0 0 (MQ below (mQi Γ (fun _ => mKl Γ L x) A) args s 0 0 A) (F0 m 47 ls []) := by
    intro y ix vl wr H locs ls hI hk hw hS hl
    refine lv_aload_n hx hb dX4_usesArray_47 rfl (lv_at hl 3 rfl) ?_
    refine m_calli (m_runV (i := nm 0 10) (ci := 3) (As := []) (rest := []) X (k_X4_popInt Γ l L y  hI) v_X4_popInt ml_X4_162 hw hS rfl rfl rfl rfl hl.1 ⟨Nat.le_of_ble_eq_true rfl, Nat.le_of_ble_eq_true rfl⟩ (Nat.le_of_ble_eq_true rfl) ⟨Nat.le_of_ble_eq_true rfl, Nat.le_of_ble_eq_true rfl⟩ dX4_usesArray_48) hS (fun r_19 L1 M1 H locs hp_19 hw hS => ?_)
    obtain ⟨e1, c_19, e2, hI_19, hk_19⟩ := hp_19
    rw [e1, e2] at hw; clear e1 e2
    have hk := hk.tr hk_19
    have hI := hI_19
    refine lv_istore (lv' := [(5, .int r_19), (4, .int ix), (3, .int vl), (2, .int wr), (0, .ref (L (nm 0 10))), (1, .int o)]) hx hb dX4_usesArray_51 hl (by decide) rfl (fun ls hl => ?_)
    exact K53 _ _ _ _ _ _ _ ls hI hk hw hS (lv_sub hl [0, 1, 2, 3, 4, 5] rfl)
  have K31 : ∀ (y : CS) (vl wr : Int32) (H : Heap) (locs : List Loc) (ls : Array Slot), CInv y → kl x y → mW Γ.1 vwCl A L (cM Γ L y) H → va_S A s.heap H locs → lv_has ls 6 [(3, .int vl), (2, .int wr), (0, .ref (L (nm 0 10))), (1, .int o)] → W p l e { frames := 3, cells := 0, slots := 0, locals := 66 } s m args below meth c H locs 0 0 (MQ below (mQi Γ (fun _ => mKl Γ L x) A) args s 0 0 A) (F0 m 31 ls []) := by
    intro y vl wr H locs ls hI hk hw hS hl
    refine lv_iload_n hx hb dX4_usesArray_31 rfl (lv_at hl 3 rfl) ?_
    refine lv_bipush (v := 16) hx hb dX4_usesArray_32 (by decide) ?_
    refine lv_icmp_ne (tgt := 41) hx hb dX4_usesArray_34 (by decide) (fun c_20 => ?_) (fun c_20 => ?_)
    · skip
      refine lv_aload_n hx hb dX4_usesArray_41 rfl (lv_at hl 2 rfl) ?_
      refine m_calli (m_runV (i := nm 0 10) (ci := 3) (As := []) (rest := []) X (k_X4_popInt Γ l L y  hI) v_X4_popInt ml_X4_162 hw hS rfl rfl rfl rfl hl.1 ⟨Nat.le_of_ble_eq_true rfl, Nat.le_of_ble_eq_true rfl⟩ (Nat.le_of_ble_eq_true rfl) ⟨Nat.le_of_ble_eq_true rfl, Nat.le_of_ble_eq_true rfl⟩ dX4_usesArray_42) hS (fun r_21 L1 M1 H locs hp_21 hw hS => ?_)
      obtain ⟨e1, c_21, e2, hI_21, hk_21⟩ := hp_21
      rw [e1, e2] at hw; clear e1 e2
      have hk := hk.tr hk_21
      have hI := hI_21
      refine lv_istore (lv' := [(4, .int r_21), (3, .int vl), (2, .int wr), (0, .ref (L (nm 0 10))), (1, .int o)]) hx hb dX4_usesArray_45 hl (by decide) rfl (fun ls hl => ?_)
      exact K47 _ _ _ _ _ _ ls hI hk hw hS (lv_sub hl [0, 1, 2, 3, 4] rfl)
    · skip
      refine lv_iconst (v := 0) hx hb dX4_usesArray_37 (by decide) ?_
      refine lv_goto (tgt := 45) hx hb dX4_usesArray_38 (by decide) ?_
      refine lv_istore (lv' := [(4, .int 0), (3, .int vl), (2, .int wr), (0, .ref (L (nm 0 10))), (1, .int o)]) hx hb dX4_usesArray_45 hl (by decide) rfl (fun ls hl => ?_)
      exact K47 _ _ _ _ _ _ ls hI hk hw hS (lv_sub hl [0, 1, 2, 3, 4] rfl)
  refine lv_iload_n hx hb dX4_usesArray_0 rfl (lv_at hl 1 rfl) ?_
  refine lv_bipush (v := 18) hx hb dX4_usesArray_1 (by decide) ?_
  refine lv_icmp_eq (tgt := 12) hx hb dX4_usesArray_3 (by decide) (fun c_22 => ?_) (fun c_22 => ?_)
  · skip
    refine lv_iconst (v := 1) hx hb dX4_usesArray_12 (by decide) ?_
    refine lv_goto (tgt := 17) hx hb dX4_usesArray_13 (by decide) ?_
    refine lv_istore_n (lv' := [(2, .int 1), (0, .ref (L (nm 0 10))), (1, .int o)]) hx hb dX4_usesArray_17 rfl hl (by decide) rfl (fun ls hl => ?_)
    refine lv_iload_n hx hb dX4_usesArray_18 rfl (lv_at hl 0 rfl) ?_
    refine lv_if_eq (tgt := 29) hx hb dX4_usesArray_19 (by decide) (fun c_23 => ?_) (fun c_23 => ?_)
    · skip
      exact absurd c_23 (by decide)
    · skip
      have c_23n : ¬ 1 = 0 := neqF (a := 1) (b := 0) rfl rfl (by omega) (by omega) c_23
      refine lv_aload_n hx hb dX4_usesArray_22 rfl (lv_at hl 1 rfl) ?_
      refine m_calli (m_runV (i := nm 0 10) (ci := 3) (As := []) (rest := []) X (k_X4_popInt Γ l L x  hI) v_X4_popInt ml_X4_162 hw hS rfl rfl rfl rfl hl.1 ⟨Nat.le_of_ble_eq_true rfl, Nat.le_of_ble_eq_true rfl⟩ (Nat.le_of_ble_eq_true rfl) ⟨Nat.le_of_ble_eq_true rfl, Nat.le_of_ble_eq_true rfl⟩ dX4_usesArray_23) hS (fun r_24 L1 M1 H locs hp_24 hw hS => ?_)
      obtain ⟨e1, c_24, e2, hI_24, hk_24⟩ := hp_24
      rw [e1, e2] at hw; clear e1 e2
      have hk := hk.tr hk_24
      have hI := hI_24
      refine lv_goto (tgt := 30) hx hb dX4_usesArray_26 (by decide) ?_
      refine lv_istore_n (lv' := [(3, .int r_24), (2, .int 1), (0, .ref (L (nm 0 10))), (1, .int o)]) hx hb dX4_usesArray_30 rfl hl (by decide) rfl (fun ls hl => ?_)
      exact K31 _ _ _ _ _ ls hI hk hw hS (lv_sub hl [0, 1, 2, 3] rfl)
  · skip
    refine lv_iload_n hx hb dX4_usesArray_6 rfl (lv_at hl 1 rfl) ?_
    refine lv_bipush (v := 20) hx hb dX4_usesArray_7 (by decide) ?_
    refine lv_icmp_ne (tgt := 16) hx hb dX4_usesArray_9 (by decide) (fun c_25 => ?_) (fun c_25 => ?_)
    · skip
      refine lv_iconst (v := 0) hx hb dX4_usesArray_16 (by decide) ?_
      refine lv_istore_n (lv' := [(2, .int 0), (0, .ref (L (nm 0 10))), (1, .int o)]) hx hb dX4_usesArray_17 rfl hl (by decide) rfl (fun ls hl => ?_)
      refine lv_iload_n hx hb dX4_usesArray_18 rfl (lv_at hl 0 rfl) ?_
      refine lv_if_eq (tgt := 29) hx hb dX4_usesArray_19 (by decide) (fun c_26 => ?_) (fun c_26 => ?_)
      · skip
        have c_26n : 0 = 0 := neqT (a := 0) (b := 0) rfl rfl (by omega) (by omega) c_26
        refine lv_iconst (v := 0) hx hb dX4_usesArray_29 (by decide) ?_
        refine lv_istore_n (lv' := [(3, .int 0), (2, .int 0), (0, .ref (L (nm 0 10))), (1, .int o)]) hx hb dX4_usesArray_30 rfl hl (by decide) rfl (fun ls hl => ?_)
        exact K31 _ _ _ _ _ ls hI hk hw hS (lv_sub hl [0, 1, 2, 3] rfl)
      · skip
        exact absurd c_26 (by decide)
    · skip
      refine lv_iconst (v := 1) hx hb dX4_usesArray_12 (by decide) ?_
      refine lv_goto (tgt := 17) hx hb dX4_usesArray_13 (by decide) ?_
      refine lv_istore_n (lv' := [(2, .int 1), (0, .ref (L (nm 0 10))), (1, .int o)]) hx hb dX4_usesArray_17 rfl hl (by decide) rfl (fun ls hl => ?_)
      refine lv_iload_n hx hb dX4_usesArray_18 rfl (lv_at hl 0 rfl) ?_
      refine lv_if_eq (tgt := 29) hx hb dX4_usesArray_19 (by decide) (fun c_27 => ?_) (fun c_27 => ?_)
      · skip
        exact absurd c_27 (by decide)
      · skip
        have c_27n : ¬ 1 = 0 := neqF (a := 1) (b := 0) rfl rfl (by omega) (by omega) c_27
        refine lv_aload_n hx hb dX4_usesArray_22 rfl (lv_at hl 1 rfl) ?_
        refine m_calli (m_runV (i := nm 0 10) (ci := 3) (As := []) (rest := []) X (k_X4_popInt Γ l L x  hI) v_X4_popInt ml_X4_162 hw hS rfl rfl rfl rfl hl.1 ⟨Nat.le_of_ble_eq_true rfl, Nat.le_of_ble_eq_true rfl⟩ (Nat.le_of_ble_eq_true rfl) ⟨Nat.le_of_ble_eq_true rfl, Nat.le_of_ble_eq_true rfl⟩ dX4_usesArray_23) hS (fun r_28 L1 M1 H locs hp_28 hw hS => ?_)
        obtain ⟨e1, c_28, e2, hI_28, hk_28⟩ := hp_28
        rw [e1, e2] at hw; clear e1 e2
        have hk := hk.tr hk_28
        have hI := hI_28
        refine lv_goto (tgt := 30) hx hb dX4_usesArray_26 (by decide) ?_
        refine lv_istore_n (lv' := [(3, .int r_28), (2, .int 1), (0, .ref (L (nm 0 10))), (1, .int o)]) hx hb dX4_usesArray_30 rfl hl (by decide) rfl (fun ls hl => ?_)
        exact K31 _ _ _ _ _ ls hI hk hw hS (lv_sub hl [0, 1, 2, 3] rfl)
theorem v_X4_asks : mVm yX4_asks cX4_asks 5 (some .int) 2 := ⟨cd_X4_asks, im_X4_asks, se_X4_asks, ini_X4, by decide, by decide, by decide +kernel⟩
set_option maxHeartbeats 4000000 in
set_option maxRecDepth 100000 in
theorem k_X4_asks (Γ : mG) (l : Launch) (L : mI → Nat) (x : CS) (o : Int32) (w : Int32) (hI : CInv x) : mMet Γ l yX4_asks cX4_asks 5 (some .int) { frames := 2, cells := 0, slots := 0, locals := 43 } [.ref (L (nm 0 10)), .int o, .int w] L (cM Γ L x) (mQi Γ (fun _ => mKl Γ L x)) := by
  refine m_start (by decide) (Nat.le_of_ble_eq_true rfl) ?_
  intro p e s m args below meth c A ls X hr hlk hnm hw hS hl
  have hx := X.1.1
  have hb := X.1.2.1
  have hl : lv_has ls 5 [(0, .ref (L (nm 0 10))), (1, .int o), (2, .int w)] := hl
  have hk : kl x x := kl.rf
  refine lv_aload_n hx hb dX4_asks_0 rfl (lv_at hl 0 rfl) ?_
  refine m_calli (m_runV (i := nm 0 10) (ci := 3) (As := []) (rest := []) X (k_X4_popInt Γ l L x  hI) v_X4_popInt ml_X4_162 hw hS rfl rfl rfl rfl hl.1 ⟨Nat.le_of_ble_eq_true rfl, Nat.le_of_ble_eq_true rfl⟩ (Nat.le_of_ble_eq_true rfl) ⟨Nat.le_of_ble_eq_true rfl, Nat.le_of_ble_eq_true rfl⟩ dX4_asks_1) hS (fun r_1 L1 M1 H locs hp_1 hw hS => ?_)
  obtain ⟨e1, c_1, e2, hI_1, hk_1⟩ := hp_1
  rw [e1, e2] at hw; clear e1 e2
  have hk := hk.tr hk_1
  have hI := hI_1
  refine lv_istore_n (lv' := [(3, .int r_1), (0, .ref (L (nm 0 10))), (1, .int o), (2, .int w)]) hx hb dX4_asks_4 rfl hl (by decide) rfl (fun ls hl => ?_)
  refine lv_aload_n hx hb dX4_asks_5 rfl (lv_at hl 1 rfl) ?_
  refine s_get (a := 0) (b := 10) (ci := 3) X hw rfl rfl gX4 0 (by decide) fl_X4_14 rfl rfl dX4_asks_6 ?_
  refine lv_iload_n hx hb dX4_asks_9 rfl (lv_at hl 0 rfl) ?_
  refine lv_iload_n hx hb dX4_asks_10 rfl (lv_at hl 3 rfl) ?_
  refine m_calli (m_runV (i := nm 0 11) (ci := 1) (As := [.int r_1, .int w]) (rest := []) X (k_X1_isOf Γ l L c_1 r_1 w hI) v_X1_isOf ml_X4_199 hw hS rfl rfl rfl rfl hl.1 ⟨Nat.le_of_ble_eq_true rfl, Nat.le_of_ble_eq_true rfl⟩ (Nat.le_of_ble_eq_true rfl) ⟨Nat.le_of_ble_eq_true rfl, Nat.le_of_ble_eq_true rfl⟩ dX4_asks_11) hS (fun r_2 L1 M1 H locs hp_2 hw hS => ?_)
  obtain ⟨⟨t_2, rfl⟩, e1, e2⟩ := hp_2
  rw [e1, e2] at hw; clear e1 e2
  refine lv_istore (lv' := [(4, .int (bI t_2)), (3, .int r_1), (0, .ref (L (nm 0 10))), (1, .int o), (2, .int w)]) hx hb dX4_asks_14 hl (by decide) rfl (fun ls hl => ?_)
  refine lv_iload_n hx hb dX4_asks_16 rfl (lv_at hl 3 rfl) ?_
  refine lv_bipush (v := 22) hx hb dX4_asks_17 (by decide) ?_
  refine lv_icmp_ne (tgt := 38) hx hb dX4_asks_19 (by decide) (fun c_3 => ?_) (fun c_3 => ?_)
  · skip
    refine lv_iload hx hb dX4_asks_38 (lv_at hl 0 rfl) ?_
    refine lv_if_ne (tgt := 56) hx hb dX4_asks_40 (by decide) (fun c_4 => ?_) (fun c_4 => ?_)
    · skip
      have c_4 := bI_t c_4
      refine lv_aload_n hx hb dX4_asks_56 rfl (lv_at hl 2 rfl) ?_
      refine lv_iload_n hx hb dX4_asks_57 rfl (lv_at hl 1 rfl) ?_
      refine lv_i2l (v := r_1.toInt64) hx hb dX4_asks_58 rfl ?_
      refine m_callv (m_runV (i := nm 0 10) (ci := 3) (As := [.long r_1.toInt64]) (rest := []) X (k_X4_push Γ l L c_1 r_1.toInt64 hI) v_X4_push ml_X4_112 hw hS rfl rfl rfl rfl hl.1 ⟨Nat.le_of_ble_eq_true rfl, Nat.le_of_ble_eq_true rfl⟩ (Nat.le_of_ble_eq_true rfl) ⟨Nat.le_of_ble_eq_true rfl, Nat.le_of_ble_eq_true rfl⟩ dX4_asks_59) hS (fun L1 M1 H locs hp_5 hw hS => ?_)
      obtain ⟨e1, c_5, e2, hI_5, hk_5⟩ := hp_5
      rw [e1, e2] at hw; clear e1 e2
      have hk := hk.tr hk_5
      have hI := hI_5
      refine lv_iconst (v := 0) hx hb dX4_asks_62 (by decide) ?_
      exact m_iret X hr hlk hw hS (Nat.le_of_ble_eq_true rfl) (Nat.le_of_ble_eq_true rfl) ⟨rfl, _, rfl, hI, hk⟩ dX4_asks_63
    · skip
      have c_4 := bI_f c_4
      refine lv_aload_n hx hb dX4_asks_43 rfl (lv_at hl 2 rfl) ?_
      refine s_get (a := 0) (b := 10) (ci := 3) X hw rfl rfl gX4 0 (by decide) fl_X4_14 rfl rfl dX4_asks_44 ?_
      refine lv_iload_n hx hb dX4_asks_47 rfl (lv_at hl 1 rfl) ?_
      refine m_calli (m_runV (i := nm 0 11) (ci := 1) (As := [.int r_1]) (rest := []) X (k_X1_isNull Γ l L c_1 r_1) v_X1_isNull ml_X4_178 hw hS rfl rfl rfl rfl hl.1 ⟨Nat.le_of_ble_eq_true rfl, Nat.le_of_ble_eq_true rfl⟩ (Nat.le_of_ble_eq_true rfl) ⟨Nat.le_of_ble_eq_true rfl, Nat.le_of_ble_eq_true rfl⟩ dX4_asks_48) hS (fun r_6 L1 M1 H locs hp_6 hw hS => ?_)
      obtain ⟨rfl, e1, e2⟩ := hp_6
      rw [e1, e2] at hw; clear e1 e2
      refine lv_if_ne (tgt := 56) hx hb dX4_asks_51 (by decide) (fun c_7 => ?_) (fun c_7 => ?_)
      · skip
        have c_7 := bI_t c_7
        refine lv_aload_n hx hb dX4_asks_56 rfl (lv_at hl 2 rfl) ?_
        refine lv_iload_n hx hb dX4_asks_57 rfl (lv_at hl 1 rfl) ?_
        refine lv_i2l (v := r_1.toInt64) hx hb dX4_asks_58 rfl ?_
        refine m_callv (m_runV (i := nm 0 10) (ci := 3) (As := [.long r_1.toInt64]) (rest := []) X (k_X4_push Γ l L c_1 r_1.toInt64 hI) v_X4_push ml_X4_112 hw hS rfl rfl rfl rfl hl.1 ⟨Nat.le_of_ble_eq_true rfl, Nat.le_of_ble_eq_true rfl⟩ (Nat.le_of_ble_eq_true rfl) ⟨Nat.le_of_ble_eq_true rfl, Nat.le_of_ble_eq_true rfl⟩ dX4_asks_59) hS (fun L1 M1 H locs hp_8 hw hS => ?_)
        obtain ⟨e1, c_8, e2, hI_8, hk_8⟩ := hp_8
        rw [e1, e2] at hw; clear e1 e2
        have hk := hk.tr hk_8
        have hI := hI_8
        refine lv_iconst (v := 0) hx hb dX4_asks_62 (by decide) ?_
        exact m_iret X hr hlk hw hS (Nat.le_of_ble_eq_true rfl) (Nat.le_of_ble_eq_true rfl) ⟨rfl, _, rfl, hI, hk⟩ dX4_asks_63
      · skip
        have c_7 := bI_f c_7
        refine lv_iconst (v := 4) hx hb dX4_asks_54 (by decide) ?_
        exact m_iret X hr hlk hw hS (Nat.le_of_ble_eq_true rfl) (Nat.le_of_ble_eq_true rfl) ⟨rfl, _, rfl, hI, hk⟩ dX4_asks_55
  · skip
    refine lv_aload_n hx hb dX4_asks_22 rfl (lv_at hl 2 rfl) ?_
    refine lv_iload hx hb dX4_asks_23 (lv_at hl 0 rfl) ?_
    refine lv_if_eq (tgt := 32) hx hb dX4_asks_25 (by decide) (fun c_9 => ?_) (fun c_9 => ?_)
    · skip
      have c_9 := bI_f c_9
      refine lv_lconst (v := 0) hx hb dX4_asks_32 (by decide) ?_
      refine m_callv (m_runV (i := nm 0 10) (ci := 3) (As := [.long 0]) (rest := []) X (k_X4_push Γ l L c_1 0 hI) v_X4_push ml_X4_112 hw hS rfl rfl rfl rfl hl.1 ⟨Nat.le_of_ble_eq_true rfl, Nat.le_of_ble_eq_true rfl⟩ (Nat.le_of_ble_eq_true rfl) ⟨Nat.le_of_ble_eq_true rfl, Nat.le_of_ble_eq_true rfl⟩ dX4_asks_33) hS (fun L1 M1 H locs hp_10 hw hS => ?_)
      obtain ⟨e1, c_10, e2, hI_10, hk_10⟩ := hp_10
      rw [e1, e2] at hw; clear e1 e2
      have hk := hk.tr hk_10
      have hI := hI_10
      refine lv_iconst (v := 0) hx hb dX4_asks_36 (by decide) ?_
      exact m_iret X hr hlk hw hS (Nat.le_of_ble_eq_true rfl) (Nat.le_of_ble_eq_true rfl) ⟨rfl, _, rfl, hI, hk⟩ dX4_asks_37
    · skip
      have c_9 := bI_t c_9
      refine lv_lconst (v := 1) hx hb dX4_asks_28 (by decide) ?_
      refine lv_goto (tgt := 33) hx hb dX4_asks_29 (by decide) ?_
      refine m_callv (m_runV (i := nm 0 10) (ci := 3) (As := [.long 1]) (rest := []) X (k_X4_push Γ l L c_1 1 hI) v_X4_push ml_X4_112 hw hS rfl rfl rfl rfl hl.1 ⟨Nat.le_of_ble_eq_true rfl, Nat.le_of_ble_eq_true rfl⟩ (Nat.le_of_ble_eq_true rfl) ⟨Nat.le_of_ble_eq_true rfl, Nat.le_of_ble_eq_true rfl⟩ dX4_asks_33) hS (fun L1 M1 H locs hp_11 hw hS => ?_)
      obtain ⟨e1, c_11, e2, hI_11, hk_11⟩ := hp_11
      rw [e1, e2] at hw; clear e1 e2
      have hk := hk.tr hk_11
      have hI := hI_11
      refine lv_iconst (v := 0) hx hb dX4_asks_36 (by decide) ?_
      exact m_iret X hr hlk hw hS (Nat.le_of_ble_eq_true rfl) (Nat.le_of_ble_eq_true rfl) ⟨rfl, _, rfl, hI, hk⟩ dX4_asks_37
theorem v_X4_usesObject : mVm yX4_usesObject cX4_usesObject 4 (some .int) 1 := ⟨cd_X4_usesObject, im_X4_usesObject, se_X4_usesObject, ini_X4, by decide, by decide, by decide +kernel⟩
set_option maxHeartbeats 4000000 in
set_option maxRecDepth 100000 in
theorem k_X4_usesObject (Γ : mG) (l : Launch) (L : mI → Nat) (x : CS) (o : Int32) (hI : CInv x) : mMet Γ l yX4_usesObject cX4_usesObject 4 (some .int) { frames := 2, cells := 0, slots := 0, locals := 45 } [.ref (L (nm 0 10)), .int o] L (cM Γ L x) (mQi Γ (fun _ => mKl Γ L x)) := by
  refine m_start (by decide) (Nat.le_of_ble_eq_true rfl) ?_
  intro p e s m args below meth c A ls X hr hlk hnm hw hS hl
  have hx := X.1.1
  have hb := X.1.2.1
  have hl : lv_has ls 4 [(0, .ref (L (nm 0 10))), (1, .int o)] := hl
  have hk : kl x x := kl.rf
  refine lv_iload_n hx hb dX4_usesObject_0 rfl (lv_at hl 1 rfl) ?_
  refine lv_bipush (v := 24) hx hb dX4_usesObject_1 (by decide) ?_
  refine lv_icmp_ne (tgt := 13) hx hb dX4_usesObject_3 (by decide) (fun c_1 => ?_) (fun c_1 => ?_)
  · skip
    refine lv_iconst (v := 0) hx hb dX4_usesObject_13 (by decide) ?_
    refine lv_istore_n (lv' := [(2, .int 0), (0, .ref (L (nm 0 10))), (1, .int o)]) hx hb dX4_usesObject_14 rfl hl (by decide) rfl (fun ls hl => ?_)
    refine lv_aload_n hx hb dX4_usesObject_15 rfl (lv_at hl 1 rfl) ?_
    refine m_calli (m_runV (i := nm 0 10) (ci := 3) (As := []) (rest := []) X (k_X4_popInt Γ l L x  hI) v_X4_popInt ml_X4_162 hw hS rfl rfl rfl rfl hl.1 ⟨Nat.le_of_ble_eq_true rfl, Nat.le_of_ble_eq_true rfl⟩ (Nat.le_of_ble_eq_true rfl) ⟨Nat.le_of_ble_eq_true rfl, Nat.le_of_ble_eq_true rfl⟩ dX4_usesObject_16) hS (fun r_2 L1 M1 H locs hp_2 hw hS => ?_)
    obtain ⟨e1, c_2, e2, hI_2, hk_2⟩ := hp_2
    rw [e1, e2] at hw; clear e1 e2
    have hk := hk.tr hk_2
    have hI := hI_2
    refine lv_istore_n (lv' := [(3, .int r_2), (2, .int 0), (0, .ref (L (nm 0 10))), (1, .int o)]) hx hb dX4_usesObject_19 rfl hl (by decide) rfl (fun ls hl => ?_)
    refine lv_aload_n hx hb dX4_usesObject_20 rfl (lv_at hl 2 rfl) ?_
    refine s_get (a := 0) (b := 10) (ci := 3) X hw rfl rfl gX4 0 (by decide) fl_X4_14 rfl rfl dX4_usesObject_21 ?_
    refine lv_iload_n hx hb dX4_usesObject_24 rfl (lv_at hl 0 rfl) ?_
    refine m_calli (m_runV (i := nm 0 11) (ci := 1) (As := [.int r_2]) (rest := []) X (k_X1_isNull Γ l L c_2 r_2) v_X1_isNull ml_X4_178 hw hS rfl rfl rfl rfl hl.1 ⟨Nat.le_of_ble_eq_true rfl, Nat.le_of_ble_eq_true rfl⟩ (Nat.le_of_ble_eq_true rfl) ⟨Nat.le_of_ble_eq_true rfl, Nat.le_of_ble_eq_true rfl⟩ dX4_usesObject_25) hS (fun r_3 L1 M1 H locs hp_3 hw hS => ?_)
    obtain ⟨rfl, e1, e2⟩ := hp_3
    rw [e1, e2] at hw; clear e1 e2
    refine lv_if_eq (tgt := 33) hx hb dX4_usesObject_28 (by decide) (fun c_4 => ?_) (fun c_4 => ?_)
    · skip
      have c_4 := bI_f c_4
      refine lv_iload_n hx hb dX4_usesObject_33 rfl (lv_at hl 3 rfl) ?_
      refine lv_bipush (v := 23) hx hb dX4_usesObject_34 (by decide) ?_
      refine lv_icmp_ne (tgt := 55) hx hb dX4_usesObject_36 (by decide) (fun c_5 => ?_) (fun c_5 => ?_)
      · skip
        refine lv_iload_n hx hb dX4_usesObject_55 rfl (lv_at hl 3 rfl) ?_
        refine lv_bipush (v := 24) hx hb dX4_usesObject_56 (by decide) ?_
        refine lv_icmp_ne (tgt := 73) hx hb dX4_usesObject_58 (by decide) (fun c_6 => ?_) (fun c_6 => ?_)
        · skip
          refine lv_aload_n hx hb dX4_usesObject_73 rfl (lv_at hl 2 rfl) ?_
          refine lv_aload_n hx hb dX4_usesObject_74 rfl (lv_at hl 2 rfl) ?_
          refine s_get (a := 0) (b := 10) (ci := 3) X hw rfl rfl gX4 0 (by decide) fl_X4_14 rfl rfl dX4_usesObject_75 ?_
          refine lv_iload_n hx hb dX4_usesObject_78 rfl (lv_at hl 0 rfl) ?_
          refine m_calli (m_runV (i := nm 0 11) (ci := 1) (As := [.int r_2]) (rest := [.ref (L (nm 0 10))]) X (k_X1_worth Γ l L c_2 r_2 hI) v_X1_worth ml_X4_208 hw hS rfl rfl rfl rfl hl.1 ⟨Nat.le_of_ble_eq_true rfl, Nat.le_of_ble_eq_true rfl⟩ (Nat.le_of_ble_eq_true rfl) ⟨Nat.le_of_ble_eq_true rfl, Nat.le_of_ble_eq_true rfl⟩ dX4_usesObject_79) hS (fun r_7 L1 M1 H locs hp_7 hw hS => ?_)
          obtain ⟨e1, e2⟩ := hp_7
          rw [e1, e2] at hw; clear e1 e2
          refine lv_i2l (v := r_7.toInt64) hx hb dX4_usesObject_82 rfl ?_
          refine m_callv (m_runV (i := nm 0 10) (ci := 3) (As := [.long r_7.toInt64]) (rest := []) X (k_X4_push Γ l L c_2 r_7.toInt64 hI) v_X4_push ml_X4_112 hw hS rfl rfl rfl rfl hl.1 ⟨Nat.le_of_ble_eq_true rfl, Nat.le_of_ble_eq_true rfl⟩ (Nat.le_of_ble_eq_true rfl) ⟨Nat.le_of_ble_eq_true rfl, Nat.le_of_ble_eq_true rfl⟩ dX4_usesObject_83) hS (fun L1 M1 H locs hp_8 hw hS => ?_)
          obtain ⟨e1, c_8, e2, hI_8, hk_8⟩ := hp_8
          rw [e1, e2] at hw; clear e1 e2
          have hk := hk.tr hk_8
          have hI := hI_8
          refine lv_iconst (v := 0) hx hb dX4_usesObject_86 (by decide) ?_
          exact m_iret X hr hlk hw hS (Nat.le_of_ble_eq_true rfl) (Nat.le_of_ble_eq_true rfl) ⟨rfl, _, rfl, hI, hk⟩ dX4_usesObject_87
        · skip
          refine lv_aload_n hx hb dX4_usesObject_61 rfl (lv_at hl 2 rfl) ?_
          refine s_get (a := 0) (b := 10) (ci := 3) X hw rfl rfl gX4 0 (by decide) fl_X4_14 rfl rfl dX4_usesObject_62 ?_
          refine lv_iload_n hx hb dX4_usesObject_65 rfl (lv_at hl 0 rfl) ?_
          refine lv_iload_n hx hb dX4_usesObject_66 rfl (lv_at hl 1 rfl) ?_
          refine m_callv (m_runV (i := nm 0 11) (ci := 1) (As := [.int r_2, .int 0]) (rest := []) X (k_X1_putField Γ l L c_2 r_2 0 hI) v_X1_putField ml_X4_205 hw hS rfl rfl rfl rfl hl.1 ⟨Nat.le_of_ble_eq_true rfl, Nat.le_of_ble_eq_true rfl⟩ (Nat.le_of_ble_eq_true rfl) ⟨Nat.le_of_ble_eq_true rfl, Nat.le_of_ble_eq_true rfl⟩ dX4_usesObject_67) hS (fun L1 M1 H locs hp_9 hw hS => ?_)
          obtain ⟨e1, c_9, e2, hI_9, hk_9⟩ := hp_9
          rw [e1, e2] at hw; clear e1 e2
          have hk := hk.tr hk_9
          have hI := hI_9
          refine lv_goto (tgt := 86) hx hb dX4_usesObject_70 (by decide) ?_
          refine lv_iconst (v := 0) hx hb dX4_usesObject_86 (by decide) ?_
          exact m_iret X hr hlk hw hS (Nat.le_of_ble_eq_true rfl) (Nat.le_of_ble_eq_true rfl) ⟨rfl, _, rfl, hI, hk⟩ dX4_usesObject_87
      · skip
        refine lv_aload_n hx hb dX4_usesObject_39 rfl (lv_at hl 2 rfl) ?_
        refine lv_aload_n hx hb dX4_usesObject_40 rfl (lv_at hl 2 rfl) ?_
        refine s_get (a := 0) (b := 10) (ci := 3) X hw rfl rfl gX4 0 (by decide) fl_X4_14 rfl rfl dX4_usesObject_41 ?_
        refine lv_iload_n hx hb dX4_usesObject_44 rfl (lv_at hl 0 rfl) ?_
        refine m_calli (m_runV (i := nm 0 11) (ci := 1) (As := [.int r_2]) (rest := [.ref (L (nm 0 10))]) X (k_X1_field Γ l L c_2 r_2 hI) v_X1_field ml_X4_202 hw hS rfl rfl rfl rfl hl.1 ⟨Nat.le_of_ble_eq_true rfl, Nat.le_of_ble_eq_true rfl⟩ (Nat.le_of_ble_eq_true rfl) ⟨Nat.le_of_ble_eq_true rfl, Nat.le_of_ble_eq_true rfl⟩ dX4_usesObject_45) hS (fun r_10 L1 M1 H locs hp_10 hw hS => ?_)
        obtain ⟨e1, e2⟩ := hp_10
        rw [e1, e2] at hw; clear e1 e2
        refine lv_i2l (v := r_10.toInt64) hx hb dX4_usesObject_48 rfl ?_
        refine m_callv (m_runV (i := nm 0 10) (ci := 3) (As := [.long r_10.toInt64]) (rest := []) X (k_X4_push Γ l L c_2 r_10.toInt64 hI) v_X4_push ml_X4_112 hw hS rfl rfl rfl rfl hl.1 ⟨Nat.le_of_ble_eq_true rfl, Nat.le_of_ble_eq_true rfl⟩ (Nat.le_of_ble_eq_true rfl) ⟨Nat.le_of_ble_eq_true rfl, Nat.le_of_ble_eq_true rfl⟩ dX4_usesObject_49) hS (fun L1 M1 H locs hp_11 hw hS => ?_)
        obtain ⟨e1, c_11, e2, hI_11, hk_11⟩ := hp_11
        rw [e1, e2] at hw; clear e1 e2
        have hk := hk.tr hk_11
        have hI := hI_11
        refine lv_goto (tgt := 86) hx hb dX4_usesObject_52 (by decide) ?_
        refine lv_iconst (v := 0) hx hb dX4_usesObject_86 (by decide) ?_
        exact m_iret X hr hlk hw hS (Nat.le_of_ble_eq_true rfl) (Nat.le_of_ble_eq_true rfl) ⟨rfl, _, rfl, hI, hk⟩ dX4_usesObject_87
    · skip
      have c_4 := bI_t c_4
      refine lv_iconst (v := 1) hx hb dX4_usesObject_31 (by decide) ?_
      exact m_iret X hr hlk hw hS (Nat.le_of_ble_eq_true rfl) (Nat.le_of_ble_eq_true rfl) ⟨rfl, _, rfl, hI, hk⟩ dX4_usesObject_32
  · skip
    refine lv_aload_n hx hb dX4_usesObject_6 rfl (lv_at hl 0 rfl) ?_
    refine m_calli (m_runV (i := nm 0 10) (ci := 3) (As := []) (rest := []) X (k_X4_popInt Γ l L x  hI) v_X4_popInt ml_X4_162 hw hS rfl rfl rfl rfl hl.1 ⟨Nat.le_of_ble_eq_true rfl, Nat.le_of_ble_eq_true rfl⟩ (Nat.le_of_ble_eq_true rfl) ⟨Nat.le_of_ble_eq_true rfl, Nat.le_of_ble_eq_true rfl⟩ dX4_usesObject_7) hS (fun r_12 L1 M1 H locs hp_12 hw hS => ?_)
    obtain ⟨e1, c_12, e2, hI_12, hk_12⟩ := hp_12
    rw [e1, e2] at hw; clear e1 e2
    have hk := hk.tr hk_12
    have hI := hI_12
    refine lv_goto (tgt := 14) hx hb dX4_usesObject_10 (by decide) ?_
    refine lv_istore_n (lv' := [(2, .int r_12), (0, .ref (L (nm 0 10))), (1, .int o)]) hx hb dX4_usesObject_14 rfl hl (by decide) rfl (fun ls hl => ?_)
    refine lv_aload_n hx hb dX4_usesObject_15 rfl (lv_at hl 1 rfl) ?_
    refine m_calli (m_runV (i := nm 0 10) (ci := 3) (As := []) (rest := []) X (k_X4_popInt Γ l L c_12  hI) v_X4_popInt ml_X4_162 hw hS rfl rfl rfl rfl hl.1 ⟨Nat.le_of_ble_eq_true rfl, Nat.le_of_ble_eq_true rfl⟩ (Nat.le_of_ble_eq_true rfl) ⟨Nat.le_of_ble_eq_true rfl, Nat.le_of_ble_eq_true rfl⟩ dX4_usesObject_16) hS (fun r_13 L1 M1 H locs hp_13 hw hS => ?_)
    obtain ⟨e1, c_13, e2, hI_13, hk_13⟩ := hp_13
    rw [e1, e2] at hw; clear e1 e2
    have hk := hk.tr hk_13
    have hI := hI_13
    refine lv_istore_n (lv' := [(3, .int r_13), (2, .int r_12), (0, .ref (L (nm 0 10))), (1, .int o)]) hx hb dX4_usesObject_19 rfl hl (by decide) rfl (fun ls hl => ?_)
    refine lv_aload_n hx hb dX4_usesObject_20 rfl (lv_at hl 2 rfl) ?_
    refine s_get (a := 0) (b := 10) (ci := 3) X hw rfl rfl gX4 0 (by decide) fl_X4_14 rfl rfl dX4_usesObject_21 ?_
    refine lv_iload_n hx hb dX4_usesObject_24 rfl (lv_at hl 0 rfl) ?_
    refine m_calli (m_runV (i := nm 0 11) (ci := 1) (As := [.int r_13]) (rest := []) X (k_X1_isNull Γ l L c_13 r_13) v_X1_isNull ml_X4_178 hw hS rfl rfl rfl rfl hl.1 ⟨Nat.le_of_ble_eq_true rfl, Nat.le_of_ble_eq_true rfl⟩ (Nat.le_of_ble_eq_true rfl) ⟨Nat.le_of_ble_eq_true rfl, Nat.le_of_ble_eq_true rfl⟩ dX4_usesObject_25) hS (fun r_14 L1 M1 H locs hp_14 hw hS => ?_)
    obtain ⟨rfl, e1, e2⟩ := hp_14
    rw [e1, e2] at hw; clear e1 e2
    refine lv_if_eq (tgt := 33) hx hb dX4_usesObject_28 (by decide) (fun c_15 => ?_) (fun c_15 => ?_)
    · skip
      have c_15 := bI_f c_15
      refine lv_iload_n hx hb dX4_usesObject_33 rfl (lv_at hl 3 rfl) ?_
      refine lv_bipush (v := 23) hx hb dX4_usesObject_34 (by decide) ?_
      refine lv_icmp_ne (tgt := 55) hx hb dX4_usesObject_36 (by decide) (fun c_16 => ?_) (fun c_16 => ?_)
      · skip
        refine lv_iload_n hx hb dX4_usesObject_55 rfl (lv_at hl 3 rfl) ?_
        refine lv_bipush (v := 24) hx hb dX4_usesObject_56 (by decide) ?_
        refine lv_icmp_ne (tgt := 73) hx hb dX4_usesObject_58 (by decide) (fun c_17 => ?_) (fun c_17 => ?_)
        · skip
          refine lv_aload_n hx hb dX4_usesObject_73 rfl (lv_at hl 2 rfl) ?_
          refine lv_aload_n hx hb dX4_usesObject_74 rfl (lv_at hl 2 rfl) ?_
          refine s_get (a := 0) (b := 10) (ci := 3) X hw rfl rfl gX4 0 (by decide) fl_X4_14 rfl rfl dX4_usesObject_75 ?_
          refine lv_iload_n hx hb dX4_usesObject_78 rfl (lv_at hl 0 rfl) ?_
          refine m_calli (m_runV (i := nm 0 11) (ci := 1) (As := [.int r_13]) (rest := [.ref (L (nm 0 10))]) X (k_X1_worth Γ l L c_13 r_13 hI) v_X1_worth ml_X4_208 hw hS rfl rfl rfl rfl hl.1 ⟨Nat.le_of_ble_eq_true rfl, Nat.le_of_ble_eq_true rfl⟩ (Nat.le_of_ble_eq_true rfl) ⟨Nat.le_of_ble_eq_true rfl, Nat.le_of_ble_eq_true rfl⟩ dX4_usesObject_79) hS (fun r_18 L1 M1 H locs hp_18 hw hS => ?_)
          obtain ⟨e1, e2⟩ := hp_18
          rw [e1, e2] at hw; clear e1 e2
          refine lv_i2l (v := r_18.toInt64) hx hb dX4_usesObject_82 rfl ?_
          refine m_callv (m_runV (i := nm 0 10) (ci := 3) (As := [.long r_18.toInt64]) (rest := []) X (k_X4_push Γ l L c_13 r_18.toInt64 hI) v_X4_push ml_X4_112 hw hS rfl rfl rfl rfl hl.1 ⟨Nat.le_of_ble_eq_true rfl, Nat.le_of_ble_eq_true rfl⟩ (Nat.le_of_ble_eq_true rfl) ⟨Nat.le_of_ble_eq_true rfl, Nat.le_of_ble_eq_true rfl⟩ dX4_usesObject_83) hS (fun L1 M1 H locs hp_19 hw hS => ?_)
          obtain ⟨e1, c_19, e2, hI_19, hk_19⟩ := hp_19
          rw [e1, e2] at hw; clear e1 e2
          have hk := hk.tr hk_19
          have hI := hI_19
          refine lv_iconst (v := 0) hx hb dX4_usesObject_86 (by decide) ?_
          exact m_iret X hr hlk hw hS (Nat.le_of_ble_eq_true rfl) (Nat.le_of_ble_eq_true rfl) ⟨rfl, _, rfl, hI, hk⟩ dX4_usesObject_87
        · skip
          refine lv_aload_n hx hb dX4_usesObject_61 rfl (lv_at hl 2 rfl) ?_
          refine s_get (a := 0) (b := 10) (ci := 3) X hw rfl rfl gX4 0 (by decide) fl_X4_14 rfl rfl dX4_usesObject_62 ?_
          refine lv_iload_n hx hb dX4_usesObject_65 rfl (lv_at hl 0 rfl) ?_
          refine lv_iload_n hx hb dX4_usesObject_66 rfl (lv_at hl 1 rfl) ?_
          refine m_callv (m_runV (i := nm 0 11) (ci := 1) (As := [.int r_13, .int r_12]) (rest := []) X (k_X1_putField Γ l L c_13 r_13 r_12 hI) v_X1_putField ml_X4_205 hw hS rfl rfl rfl rfl hl.1 ⟨Nat.le_of_ble_eq_true rfl, Nat.le_of_ble_eq_true rfl⟩ (Nat.le_of_ble_eq_true rfl) ⟨Nat.le_of_ble_eq_true rfl, Nat.le_of_ble_eq_true rfl⟩ dX4_usesObject_67) hS (fun L1 M1 H locs hp_20 hw hS => ?_)
          obtain ⟨e1, c_20, e2, hI_20, hk_20⟩ := hp_20
          rw [e1, e2] at hw; clear e1 e2
          have hk := hk.tr hk_20
          have hI := hI_20
          refine lv_goto (tgt := 86) hx hb dX4_usesObject_70 (by decide) ?_
          refine lv_iconst (v := 0) hx hb dX4_usesObject_86 (by decide) ?_
          exact m_iret X hr hlk hw hS (Nat.le_of_ble_eq_true rfl) (Nat.le_of_ble_eq_true rfl) ⟨rfl, _, rfl, hI, hk⟩ dX4_usesObject_87
      · skip
        refine lv_aload_n hx hb dX4_usesObject_39 rfl (lv_at hl 2 rfl) ?_
        refine lv_aload_n hx hb dX4_usesObject_40 rfl (lv_at hl 2 rfl) ?_
        refine s_get (a := 0) (b := 10) (ci := 3) X hw rfl rfl gX4 0 (by decide) fl_X4_14 rfl rfl dX4_usesObject_41 ?_
        refine lv_iload_n hx hb dX4_usesObject_44 rfl (lv_at hl 0 rfl) ?_
        refine m_calli (m_runV (i := nm 0 11) (ci := 1) (As := [.int r_13]) (rest := [.ref (L (nm 0 10))]) X (k_X1_field Γ l L c_13 r_13 hI) v_X1_field ml_X4_202 hw hS rfl rfl rfl rfl hl.1 ⟨Nat.le_of_ble_eq_true rfl, Nat.le_of_ble_eq_true rfl⟩ (Nat.le_of_ble_eq_true rfl) ⟨Nat.le_of_ble_eq_true rfl, Nat.le_of_ble_eq_true rfl⟩ dX4_usesObject_45) hS (fun r_21 L1 M1 H locs hp_21 hw hS => ?_)
        obtain ⟨e1, e2⟩ := hp_21
        rw [e1, e2] at hw; clear e1 e2
        refine lv_i2l (v := r_21.toInt64) hx hb dX4_usesObject_48 rfl ?_
        refine m_callv (m_runV (i := nm 0 10) (ci := 3) (As := [.long r_21.toInt64]) (rest := []) X (k_X4_push Γ l L c_13 r_21.toInt64 hI) v_X4_push ml_X4_112 hw hS rfl rfl rfl rfl hl.1 ⟨Nat.le_of_ble_eq_true rfl, Nat.le_of_ble_eq_true rfl⟩ (Nat.le_of_ble_eq_true rfl) ⟨Nat.le_of_ble_eq_true rfl, Nat.le_of_ble_eq_true rfl⟩ dX4_usesObject_49) hS (fun L1 M1 H locs hp_22 hw hS => ?_)
        obtain ⟨e1, c_22, e2, hI_22, hk_22⟩ := hp_22
        rw [e1, e2] at hw; clear e1 e2
        have hk := hk.tr hk_22
        have hI := hI_22
        refine lv_goto (tgt := 86) hx hb dX4_usesObject_52 (by decide) ?_
        refine lv_iconst (v := 0) hx hb dX4_usesObject_86 (by decide) ?_
        exact m_iret X hr hlk hw hS (Nat.le_of_ble_eq_true rfl) (Nat.le_of_ble_eq_true rfl) ⟨rfl, _, rfl, hI, hk⟩ dX4_usesObject_87
    · skip
      have c_15 := bI_t c_15
      refine lv_iconst (v := 1) hx hb dX4_usesObject_31 (by decide) ?_
      exact m_iret X hr hlk hw hS (Nat.le_of_ble_eq_true rfl) (Nat.le_of_ble_eq_true rfl) ⟨rfl, _, rfl, hI, hk⟩ dX4_usesObject_32
theorem v_X4_turns : mVm yX4_turns cX4_turns 6 (some .int) 1 := ⟨cd_X4_turns, im_X4_turns, se_X4_turns, ini_X4, by decide, by decide, by decide +kernel⟩
set_option maxHeartbeats 4000000 in
set_option maxRecDepth 100000 in
theorem k_X4_turns (Γ : mG) (l : Launch) (L : mI → Nat) (x : CS) (o : Int32) (hI : CInv x) : mMet Γ l yX4_turns cX4_turns 6 (some .int) { frames := 1, cells := 0, slots := 0, locals := 22 } [.ref (L (nm 0 10)), .int o] L (cM Γ L x) (mQi Γ (fun _ => mKl Γ L x)) := by
  refine m_start (by decide) (Nat.le_of_ble_eq_true rfl) ?_
  intro p e s m args below meth c A ls X hr hlk hnm hw hS hl
  have hx := X.1.1
  have hb := X.1.2.1
  have hl : lv_has ls 6 [(0, .ref (L (nm 0 10))), (1, .int o)] := hl
  have hk : kl x x := kl.rf
  refine lv_aload_n hx hb dX4_turns_0 rfl (lv_at hl 0 rfl) ?_
  refine m_calll (m_runV (i := nm 0 10) (ci := 3) (As := []) (rest := []) X (k_X4_pop Γ l L x  hI) v_X4_pop ml_X4_116 hw hS rfl rfl rfl rfl hl.1 ⟨Nat.le_of_ble_eq_true rfl, Nat.le_of_ble_eq_true rfl⟩ (Nat.le_of_ble_eq_true rfl) ⟨Nat.le_of_ble_eq_true rfl, Nat.le_of_ble_eq_true rfl⟩ dX4_turns_1) hS (fun r_1 L1 M1 H locs hp_1 hw hS => ?_)
  obtain ⟨e1, c_1, e2, hI_1, hk_1⟩ := hp_1
  rw [e1, e2] at hw; clear e1 e2
  have hk := hk.tr hk_1
  have hI := hI_1
  refine lv_lstore_n (lv' := [(2, .long r_1), (0, .ref (L (nm 0 10))), (1, .int o)]) hx hb dX4_turns_4 rfl hl (by decide) rfl (fun ls hl => ?_)
  refine lv_iload_n hx hb dX4_turns_5 rfl (lv_at hl 2 rfl) ?_
  refine lv_bipush (v := 26) hx hb dX4_turns_6 (by decide) ?_
  refine lv_icmp_ne (tgt := 24) hx hb dX4_turns_8 (by decide) (fun c_2 => ?_) (fun c_2 => ?_)
  · skip
    refine lv_iload_n hx hb dX4_turns_24 rfl (lv_at hl 2 rfl) ?_
    refine lv_bipush (v := 28) hx hb dX4_turns_25 (by decide) ?_
    refine lv_icmp_ne (tgt := 47) hx hb dX4_turns_27 (by decide) (fun c_3 => ?_) (fun c_3 => ?_)
    · skip
      refine lv_iconst (v := 0) hx hb dX4_turns_47 (by decide) ?_
      exact m_iret X hr hlk hw hS (Nat.le_of_ble_eq_true rfl) (Nat.le_of_ble_eq_true rfl) ⟨rfl, _, rfl, hI, hk⟩ dX4_turns_48
    · skip
      refine lv_aload_n hx hb dX4_turns_30 rfl (lv_at hl 1 rfl) ?_
      refine m_calll (m_runV (i := nm 0 10) (ci := 3) (As := []) (rest := []) X (k_X4_pop Γ l L c_1  hI) v_X4_pop ml_X4_116 hw hS rfl rfl rfl rfl hl.1 ⟨Nat.le_of_ble_eq_true rfl, Nat.le_of_ble_eq_true rfl⟩ (Nat.le_of_ble_eq_true rfl) ⟨Nat.le_of_ble_eq_true rfl, Nat.le_of_ble_eq_true rfl⟩ dX4_turns_31) hS (fun r_4 L1 M1 H locs hp_4 hw hS => ?_)
      obtain ⟨e1, c_4, e2, hI_4, hk_4⟩ := hp_4
      rw [e1, e2] at hw; clear e1 e2
      have hk := hk.tr hk_4
      have hI := hI_4
      refine lv_lstore (lv' := [(4, .long r_4), (2, .long r_1), (0, .ref (L (nm 0 10))), (1, .int o)]) hx hb dX4_turns_34 hl (by decide) rfl (fun ls hl => ?_)
      refine lv_aload_n hx hb dX4_turns_36 rfl (lv_at hl 2 rfl) ?_
      refine lv_lload_n hx hb dX4_turns_37 rfl (lv_at hl 1 rfl) ?_
      refine m_callv (m_runV (i := nm 0 10) (ci := 3) (As := [.long r_1]) (rest := []) X (k_X4_push Γ l L c_4 r_1 hI) v_X4_push ml_X4_112 hw hS rfl rfl rfl rfl hl.1 ⟨Nat.le_of_ble_eq_true rfl, Nat.le_of_ble_eq_true rfl⟩ (Nat.le_of_ble_eq_true rfl) ⟨Nat.le_of_ble_eq_true rfl, Nat.le_of_ble_eq_true rfl⟩ dX4_turns_38) hS (fun L1 M1 H locs hp_5 hw hS => ?_)
      obtain ⟨e1, c_5, e2, hI_5, hk_5⟩ := hp_5
      rw [e1, e2] at hw; clear e1 e2
      have hk := hk.tr hk_5
      have hI := hI_5
      refine lv_aload_n hx hb dX4_turns_41 rfl (lv_at hl 2 rfl) ?_
      refine lv_lload hx hb dX4_turns_42 (lv_at hl 0 rfl) ?_
      refine m_callv (m_runV (i := nm 0 10) (ci := 3) (As := [.long r_4]) (rest := []) X (k_X4_push Γ l L c_5 r_4 hI) v_X4_push ml_X4_112 hw hS rfl rfl rfl rfl hl.1 ⟨Nat.le_of_ble_eq_true rfl, Nat.le_of_ble_eq_true rfl⟩ (Nat.le_of_ble_eq_true rfl) ⟨Nat.le_of_ble_eq_true rfl, Nat.le_of_ble_eq_true rfl⟩ dX4_turns_44) hS (fun L1 M1 H locs hp_6 hw hS => ?_)
      obtain ⟨e1, c_6, e2, hI_6, hk_6⟩ := hp_6
      rw [e1, e2] at hw; clear e1 e2
      have hk := hk.tr hk_6
      have hI := hI_6
      refine lv_iconst (v := 0) hx hb dX4_turns_47 (by decide) ?_
      exact m_iret X hr hlk hw hS (Nat.le_of_ble_eq_true rfl) (Nat.le_of_ble_eq_true rfl) ⟨rfl, _, rfl, hI, hk⟩ dX4_turns_48
  · skip
    refine lv_aload_n hx hb dX4_turns_11 rfl (lv_at hl 1 rfl) ?_
    refine lv_lload_n hx hb dX4_turns_12 rfl (lv_at hl 0 rfl) ?_
    refine m_callv (m_runV (i := nm 0 10) (ci := 3) (As := [.long r_1]) (rest := []) X (k_X4_push Γ l L c_1 r_1 hI) v_X4_push ml_X4_112 hw hS rfl rfl rfl rfl hl.1 ⟨Nat.le_of_ble_eq_true rfl, Nat.le_of_ble_eq_true rfl⟩ (Nat.le_of_ble_eq_true rfl) ⟨Nat.le_of_ble_eq_true rfl, Nat.le_of_ble_eq_true rfl⟩ dX4_turns_13) hS (fun L1 M1 H locs hp_7 hw hS => ?_)
    obtain ⟨e1, c_7, e2, hI_7, hk_7⟩ := hp_7
    rw [e1, e2] at hw; clear e1 e2
    have hk := hk.tr hk_7
    have hI := hI_7
    refine lv_aload_n hx hb dX4_turns_16 rfl (lv_at hl 1 rfl) ?_
    refine lv_lload_n hx hb dX4_turns_17 rfl (lv_at hl 0 rfl) ?_
    refine m_callv (m_runV (i := nm 0 10) (ci := 3) (As := [.long r_1]) (rest := []) X (k_X4_push Γ l L c_7 r_1 hI) v_X4_push ml_X4_112 hw hS rfl rfl rfl rfl hl.1 ⟨Nat.le_of_ble_eq_true rfl, Nat.le_of_ble_eq_true rfl⟩ (Nat.le_of_ble_eq_true rfl) ⟨Nat.le_of_ble_eq_true rfl, Nat.le_of_ble_eq_true rfl⟩ dX4_turns_18) hS (fun L1 M1 H locs hp_8 hw hS => ?_)
    obtain ⟨e1, c_8, e2, hI_8, hk_8⟩ := hp_8
    rw [e1, e2] at hw; clear e1 e2
    have hk := hk.tr hk_8
    have hI := hI_8
    refine lv_goto (tgt := 47) hx hb dX4_turns_21 (by decide) ?_
    refine lv_iconst (v := 0) hx hb dX4_turns_47 (by decide) ?_
    exact m_iret X hr hlk hw hS (Nat.le_of_ble_eq_true rfl) (Nat.le_of_ble_eq_true rfl) ⟨rfl, _, rfl, hI, hk⟩ dX4_turns_48
theorem v_X4_jumpsIf : mVm yX4_jumpsIf cX4_jumpsIf 4 (some .int) 2 := ⟨cd_X4_jumpsIf, im_X4_jumpsIf, se_X4_jumpsIf, ini_X4, by decide, by decide, by decide +kernel⟩
set_option maxHeartbeats 4000000 in
set_option maxRecDepth 100000 in
theorem k_X4_jumpsIf (Γ : mG) (l : Launch) (L : mI → Nat) (x : CS) (k : Int32) (v : Int64) (hI : CInv x) : mMet Γ l yX4_jumpsIf cX4_jumpsIf 4 (some .int) { frames := 0, cells := 0, slots := 0, locals := 0 } [.ref (L (nm 0 10)), .int k, .long v] L (cM Γ L x) (mQi Γ (fun _ => mKl Γ L x)) := by
  refine m_start (by decide) (Nat.le_of_ble_eq_true rfl) ?_
  intro p e s m args below meth c A ls X hr hlk hnm hw hS hl
  have hx := X.1.1
  have hb := X.1.2.1
  have hl : lv_has ls 4 [(0, .ref (L (nm 0 10))), (1, .int k), (2, .long v)] := hl
  have hk : kl x x := kl.rf
  refine lv_iload_n hx hb dX4_jumpsIf_0 rfl (lv_at hl 1 rfl) ?_
  refine lv_if_ne (tgt := 6) hx hb dX4_jumpsIf_1 (by decide) (fun c_1 => ?_) (fun c_1 => ?_)
  · skip
    refine lv_aload_n hx hb dX4_jumpsIf_6 rfl (lv_at hl 0 rfl) ?_
    refine s_get (a := 0) (b := 10) (ci := 3) X hw rfl rfl gX4 2 (by decide) fl_X4_26 rfl rfl dX4_jumpsIf_7 ?_
    refine lv_aload_n hx hb dX4_jumpsIf_10 rfl (lv_at hl 0 rfl) ?_
    refine s_get (a := 0) (b := 10) (ci := 3) X hw rfl rfl gX4 6 (by decide) fl_X4_50 rfl rfl dX4_jumpsIf_11 ?_
    obtain ⟨z_2, hz_2, ez_2⟩ := hI.2.2.2.1
    refine lv_lload_n hx hb dX4_jumpsIf_14 rfl (lv_at hl 2 rfl) ?_
    refine lv_l2i (v := v.toInt32) hx hb dX4_jumpsIf_15 rfl ?_
    refine s_iast (n := 8) (k := z_2) (v := v.toInt32) X hw hS (fun _ => rfl) ez_2 (by omega) (by decide) dX4_jumpsIf_16 (fun H locs hw hS => ?_)
    have hI := hI.putV (a := 0) (b := 17) (j := z_2) (v := v.toInt32) (by omega)
    have hk := hk.putV (a := 0) (b := 17) (j := z_2) (v := v.toInt32) (by omega)
    refine lv_iconst (v := (-1)) hx hb dX4_jumpsIf_17 (by decide) ?_
    exact m_iret X hr hlk hw hS (Nat.le_of_ble_eq_true rfl) (Nat.le_of_ble_eq_true rfl) ⟨rfl, _, rfl, hI, hk⟩ dX4_jumpsIf_18
  · skip
    refine lv_iconst (v := 0) hx hb dX4_jumpsIf_4 (by decide) ?_
    exact m_iret X hr hlk hw hS (Nat.le_of_ble_eq_true rfl) (Nat.le_of_ble_eq_true rfl) ⟨rfl, _, rfl, hI, hk⟩ dX4_jumpsIf_5
theorem v_X4_returns : mVm yX4_returns cX4_returns 2 (some .int) 1 := ⟨cd_X4_returns, im_X4_returns, se_X4_returns, ini_X4, by decide, by decide, by decide +kernel⟩
set_option maxHeartbeats 4000000 in
set_option maxRecDepth 100000 in
theorem k_X4_returns (Γ : mG) (l : Launch) (L : mI → Nat) (x : CS) (k : Int32) (hI : CInv x) : mMet Γ l yX4_returns cX4_returns 2 (some .int) { frames := 1, cells := 0, slots := 0, locals := 22 } [.ref (L (nm 0 10)), .int k] L (cM Γ L x) (mQi Γ (fun _ => mKf 0 10 10 Γ L x)) := by
  refine m_start (by decide) (Nat.le_of_ble_eq_true rfl) ?_
  intro p e s m args below meth c A ls X hr hlk hnm hw hS hl
  have hx := X.1.1
  have hb := X.1.2.1
  have hl : lv_has ls 2 [(0, .ref (L (nm 0 10))), (1, .int k)] := hl
  have hk : kf 0 10 10 x x := kf.rf
  refine lv_aload_n hx hb dX4_returns_0 rfl (lv_at hl 0 rfl) ?_
  refine s_get (a := 0) (b := 10) (ci := 3) X hw rfl rfl gX4 6 (by decide) fl_X4_50 rfl rfl dX4_returns_1 ?_
  obtain ⟨z_1, hz_1, ez_1⟩ := hI.2.2.2.1
  refine lv_if_ne (tgt := 15) hx hb dX4_returns_4 (by decide) (fun c_2 => ?_) (fun c_2 => ?_)
  · skip
    have c_2n : ¬ z_1 = 0 := nneT (a := z_1) (b := 0) ez_1 rfl (by omega) (by omega) c_2
    refine lv_aload_n hx hb dX4_returns_15 rfl (lv_at hl 0 rfl) ?_
    refine lv_dup hx hb dX4_returns_16 rfl ?_
    refine s_get (a := 0) (b := 10) (ci := 3) X hw rfl rfl gX4 6 (by decide) fl_X4_50 rfl rfl dX4_returns_17 ?_
    refine lv_iconst (v := 1) hx hb dX4_returns_20 (by decide) ?_
    refine lv_isub hx hb dX4_returns_21 ?_
    refine lv_topi (fun v_3 ev_3 => ?_)
    obtain rfl : v_3 = nI (z_1 - 1) := ev_3.trans (nsub (a := z_1) (b := 1) (by omega) ez_1 rfl)
    clear ev_3
    refine s_put (a := 0) (b := 10) (v := nI (z_1 - 1)) (ci := 3) (ty := tyX4 6) X hw hS 6 rfl rfl rfl gX4 tyX4 tyX4_ok nmX4 (by decide) fl_X4_50 rfl rfl (tyX4_ok 6 (by decide)) rfl rfl (show 6 < 14 by decide) dX4_returns_22 (fun H locs hw hS => ?_)
    have ez_4 : (tS x 0 10 6 (nI (z_1 - 1))).1 0 10 6 = nI (z_1 - 1) := tS_self.trans rfl
    have hI := hI.lvl (v := nI (z_1 - 1)) ⟨z_1 - 1, by omega, rfl⟩
    have hk := hk.putS (a := 0) (b := 10) (k := 6) (v := nI (z_1 - 1)) (by omega)
    refine lv_aload_n hx hb dX4_returns_25 rfl (lv_at hl 0 rfl) ?_
    refine lv_iload_n hx hb dX4_returns_26 rfl (lv_at hl 1 rfl) ?_
    refine lv_i2l (v := k.toInt64) hx hb dX4_returns_27 rfl ?_
    refine m_callv (m_runV (i := nm 0 10) (ci := 3) (As := [.long k.toInt64]) (rest := []) X (k_X4_push Γ l L (tS x 0 10 6 (nI (z_1 - 1))) k.toInt64 hI) v_X4_push ml_X4_112 hw hS rfl rfl rfl rfl hl.1 ⟨Nat.le_of_ble_eq_true rfl, Nat.le_of_ble_eq_true rfl⟩ (Nat.le_of_ble_eq_true rfl) ⟨Nat.le_of_ble_eq_true rfl, Nat.le_of_ble_eq_true rfl⟩ dX4_returns_28) hS (fun L1 M1 H locs hp_5 hw hS => ?_)
    obtain ⟨e1, c_5, e2, hI_5, hk_5⟩ := hp_5
    rw [e1, e2] at hw; clear e1 e2
    have ez_5 : c_5.1 0 10 6 = nI (z_1 - 1) := hk_5.2.trans ez_4
    have hk := hk.tr hk_5.1
    have hI := hI_5
    refine lv_aload_n hx hb dX4_returns_31 rfl (lv_at hl 0 rfl) ?_
    refine s_get (a := 0) (b := 10) (ci := 3) X hw rfl rfl gX4 2 (by decide) fl_X4_26 rfl rfl dX4_returns_32 ?_
    refine lv_aload_n hx hb dX4_returns_35 rfl (lv_at hl 0 rfl) ?_
    refine s_get (a := 0) (b := 10) (ci := 3) X hw rfl rfl gX4 6 (by decide) fl_X4_50 rfl rfl dX4_returns_36 ?_
    refine lv_dup2_11 hx hb dX4_returns_39 rfl rfl ?_
    refine s_iald (n := 8) (k := z_1 - 1) X hw rfl ez_5 (by omega) (by decide) dX4_returns_40 ?_
    refine lv_iconst (v := 1) hx hb dX4_returns_41 (by decide) ?_
    refine lv_iadd hx hb dX4_returns_42 ?_
    refine s_iast (n := 8) (k := z_1 - 1) (v := (c_5.2.1 0 17 (z_1 - 1)) + 1) X hw hS (fun _ => rfl) ez_5 (by omega) (by decide) dX4_returns_43 (fun H locs hw hS => ?_)
    have hI := hI.putV (a := 0) (b := 17) (j := z_1 - 1) (v := (c_5.2.1 0 17 (z_1 - 1)) + 1) (by omega)
    have hk := hk.putV (a := 0) (b := 17) (j := z_1 - 1) (v := (c_5.2.1 0 17 (z_1 - 1)) + 1) (by omega)
    refine lv_iconst (v := (-1)) hx hb dX4_returns_44 (by decide) ?_
    exact m_iret X hr hlk hw hS (Nat.le_of_ble_eq_true rfl) (Nat.le_of_ble_eq_true rfl) ⟨rfl, _, rfl, hI, hk⟩ dX4_returns_45
  · skip
    have c_2n : z_1 = 0 := nneF (a := z_1) (b := 0) ez_1 rfl (by omega) (by omega) c_2
    refine lv_aload_n hx hb dX4_returns_7 rfl (lv_at hl 0 rfl) ?_
    refine lv_iconst (v := 0) hx hb dX4_returns_8 (by decide) ?_
    refine lv_iload_n hx hb dX4_returns_9 rfl (lv_at hl 1 rfl) ?_
    refine m_callv (m_runV (i := nm 0 10) (ci := 3) (As := [.int 0, .int k]) (rest := []) X (k_X4_end Γ l L x 0 k hI) v_X4_end ml_X4_100 hw hS rfl rfl rfl rfl hl.1 ⟨Nat.le_of_ble_eq_true rfl, Nat.le_of_ble_eq_true rfl⟩ (Nat.le_of_ble_eq_true rfl) ⟨Nat.le_of_ble_eq_true rfl, Nat.le_of_ble_eq_true rfl⟩ dX4_returns_10) hS (fun L1 M1 H locs hp_6 hw hS => ?_)
    obtain ⟨e1, c_6, e2, hI_6, hk_6⟩ := hp_6
    rw [e1, e2] at hw; clear e1 e2
    have ez_6 : c_6.1 0 10 6 = nI z_1 := hk_6.2.trans ez_1
    have hk := hk.tr hk_6.1
    have hI := hI_6
    refine lv_iconst (v := (-1)) hx hb dX4_returns_13 (by decide) ?_
    exact m_iret X hr hlk hw hS (Nat.le_of_ble_eq_true rfl) (Nat.le_of_ble_eq_true rfl) ⟨rfl, _, rfl, hI, hk⟩ dX4_returns_14
theorem v_X4_calls : mVm yX4_calls cX4_calls 4 (some .int) 1 := ⟨cd_X4_calls, im_X4_calls, se_X4_calls, ini_X4, by decide, by decide, by decide +kernel⟩
set_option maxHeartbeats 4000000 in
set_option maxRecDepth 100000 in
theorem k_X4_calls (Γ : mG) (l : Launch) (L : mI → Nat) (x : CS) (cm : Nat)  (hI : CInv x) (hm : cm < cN x) : mMet Γ l yX4_calls cX4_calls 4 (some .int) { frames := 1, cells := 0, slots := 0, locals := 21 } [.ref (L (nm 0 10)), .ref (L (nm (cm + 2) 0))] L (cM Γ L x) (mQi Γ (fun _ => mKf 0 10 10 Γ L x)) := by
  refine m_start (by decide) (Nat.le_of_ble_eq_true rfl) ?_
  intro p e s m args below meth c A ls X hr hlk hnm hw hS hl
  have hx := X.1.1
  have hb := X.1.2.1
  have hl : lv_has ls 4 [(0, .ref (L (nm 0 10))), (1, .ref (L (nm (cm + 2) 0)))] := hl
  have hk : kf 0 10 10 x x := kf.rf
  obtain ⟨lv, hlv, elv⟩ := hI.2.2.2.1
  have hkl : kl x x := kl.rf
  refine lv_aload_n hx hb dX4_calls_0 rfl (lv_at hl 1 rfl) ?_
  refine lv_ifnull hx hb dX4_calls_1 ?_
  refine lv_aload_n hx hb dX4_calls_4 rfl (lv_at hl 0 rfl) ?_
  refine s_get (a := 0) (b := 10) (ci := 3) X hw rfl rfl gX4 6 (by decide) fl_X4_50 rfl rfl dX4_calls_5 ?_
  refine lv_iconst (v := 1) hx hb dX4_calls_8 (by decide) ?_
  refine lv_iadd hx hb dX4_calls_9 ?_
  refine lv_bipush (v := 8) hx hb dX4_calls_10 (by decide) ?_
  refine lv_icmp_lt (tgt := 17) hx hb dX4_calls_12 (by decide) (fun c_1 => ?_) (fun c_1 => ?_)
  · skip
    have c_1n : (lv + 1) < 8 := nltT (a := lv + 1) (b := 8) (nadd (a := lv) (b := 1) elv rfl) rfl (by omega) (by omega) c_1
    have c_1m : ¬ 8 ≤ (lv + 1) := by omega
    refine lv_aload_n hx hb dX4_calls_17 rfl (lv_at hl 0 rfl) ?_
    refine s_get (a := 0) (b := 10) (ci := 3) X hw rfl rfl gX4 6 (by decide) fl_X4_50 rfl rfl dX4_calls_18 ?_
    refine lv_iconst (v := 1) hx hb dX4_calls_21 (by decide) ?_
    refine lv_iadd hx hb dX4_calls_22 ?_
    refine lv_bipush (v := 8) hx hb dX4_calls_23 (by decide) ?_
    refine lv_imul hx hb dX4_calls_25 ?_
    refine lv_istore_n (lv' := [(2, .int (((x.1 0 10 6) + 1) * 8)), (0, .ref (L (nm 0 10))), (1, .ref (L (nm (cm + 2) 0)))]) hx hb dX4_calls_26 rfl hl (by decide) rfl (fun ls hl => ?_)
    refine lv_aload_n hx hb dX4_calls_27 rfl (lv_at hl 2 rfl) ?_
    refine s_get (a := cm + 2) (b := 0) (ci := 0) X hw (c_cell (hk.lt hm) 0 _ _ _) rfl gX0 1 (by decide) fl_X4_226 rfl rfl dX4_calls_28 ?_
    obtain ⟨z_2, hz_2, ez_2⟩ := (hI.2.1 cm (hk.lt hm)).1
    refine lv_iconst (v := 1) hx hb dX4_calls_31 (by decide) ?_
    refine lv_isub hx hb dX4_calls_32 ?_
    refine lv_istore_n (lv' := [(3, .int ((x.1 (cm + 2) 0 1) - 1)), (2, .int (((x.1 0 10 6) + 1) * 8)), (0, .ref (L (nm 0 10))), (1, .ref (L (nm (cm + 2) 0)))]) hx hb dX4_calls_33 rfl hl (by decide) rfl (fun ls hl => ?_)
    have efi : ((x.1 0 10 6) + 1) * 8 = nI (8 * lv + 8) := (nmul (a := lv + 1) (b := 8) (nadd (a := lv) (b := 1) elv rfl) rfl).trans (by congr 1; omega)
    have KL : ∀ (n : Nat) (j : Int32) (y : CS) (H : Heap) (locs : List Loc) (ls : Array Slot), n ≤ 4 → dn n j → CInv y → kl x y → mW Γ.1 vwCl A L (cM Γ L (y)) H → va_S A s.heap H locs → lv_has ls 4 [(3, .int j), (2, .int (((x.1 0 10 6) + 1) * 8)), (0, .ref (L (nm 0 10))), (1, .ref (L (nm (cm + 2) 0)))] → W p l e { frames := 1, cells := 0, slots := 0, locals := 21 } s m args below meth c H locs 0 0 (MQ below (mQi Γ (fun _ => mKf 0 10 10 Γ L x) A) args s 0 0 A) (F0 m 34 ls []) := by
      intro n
      induction n with
      | zero =>
        intro j y H locs ls f0 f1 f2 f3 hw hS hl
        have hI := f2
        have hkl := f3
        have hk := hkl.1
        obtain rfl : j = -1 := dn_zero f1
        have elv : y.1 0 10 6 = nI lv := hkl.2.trans elv
        refine lv_iload_n hx hb dX4_calls_34 rfl (lv_at hl 0 rfl) ?_
        refine lv_if_lt (tgt := 56) hx hb dX4_calls_35 (by decide) (fun c_3 => ?_) (fun c_3 => ?_)
        · skip
          refine lv_aload_n hx hb dX4_calls_56 rfl (lv_at hl 2 rfl) ?_
          refine lv_dup hx hb dX4_calls_57 rfl ?_
          refine s_get (a := 0) (b := 10) (ci := 3) X hw rfl rfl gX4 6 (by decide) fl_X4_50 rfl rfl dX4_calls_58 ?_
          refine lv_iconst (v := 1) hx hb dX4_calls_61 (by decide) ?_
          refine lv_iadd hx hb dX4_calls_62 ?_
          refine lv_topi (fun v_4 ev_4 => ?_)
          obtain rfl : v_4 = nI (lv + 1) := ev_4.trans (nadd (a := lv) (b := 1) elv rfl)
          clear ev_4
          refine s_put (a := 0) (b := 10) (v := nI (lv + 1)) (ci := 3) (ty := tyX4 6) X hw hS 6 rfl rfl rfl gX4 tyX4 tyX4_ok nmX4 (by decide) fl_X4_50 rfl rfl (tyX4_ok 6 (by decide)) rfl rfl (show 6 < 14 by decide) dX4_calls_63 (fun H locs hw hS => ?_)
          have ez_5 : (tS y 0 10 6 (nI (lv + 1))).1 0 10 6 = nI (lv + 1) := tS_self.trans rfl
          have hI := hI.lvl (v := nI (lv + 1)) ⟨lv + 1, by omega, rfl⟩
          have hk := hk.putS (a := 0) (b := 10) (k := 6) (v := nI (lv + 1)) (by omega)
          refine lv_aload_n hx hb dX4_calls_66 rfl (lv_at hl 2 rfl) ?_
          refine lv_aload_n hx hb dX4_calls_67 rfl (lv_at hl 3 rfl) ?_
          refine m_callv (m_runV (i := nm 0 10) (ci := 3) (As := [.ref (L (nm (cm + 2) 0))]) (rest := []) X (k_X4_enter Γ l L (tS y 0 10 6 (nI (lv + 1))) cm hI (hk.lt hm)) v_X4_enter ml_X4_53 hw hS rfl rfl rfl rfl hl.1 ⟨Nat.le_of_ble_eq_true rfl, Nat.le_of_ble_eq_true rfl⟩ (Nat.le_of_ble_eq_true rfl) ⟨Nat.le_of_ble_eq_true rfl, Nat.le_of_ble_eq_true rfl⟩ dX4_calls_68) hS (fun L1 M1 H locs hp_6 hw hS => ?_)
          obtain ⟨e1, c_6, e2, hI_6, hk_6⟩ := hp_6
          rw [e1, e2] at hw; clear e1 e2
          have ez_6 : c_6.1 0 10 6 = nI (lv + 1) := hk_6.2.trans ez_5
          have hk := hk.tr hk_6.1
          have hI := hI_6
          refine lv_iconst (v := (-1)) hx hb dX4_calls_71 (by decide) ?_
          exact m_iret X hr hlk hw hS (Nat.le_of_ble_eq_true rfl) (Nat.le_of_ble_eq_true rfl) ⟨rfl, _, rfl, hI, hk⟩ dX4_calls_72
        · skip
          exact absurd c_3 (by decide)
      | succ n ih =>
        intro j y H locs ls f0 f1 f2 f3 hw hS hl
        have hI := f2
        have hkl := f3
        have hk := hkl.1
        have f1 : j = nI n := dn_succ f1
        have elv : y.1 0 10 6 = nI lv := hkl.2.trans elv
        refine lv_iload_n hx hb dX4_calls_34 rfl (lv_at hl 0 rfl) ?_
        refine lv_if_lt (tgt := 56) hx hb dX4_calls_35 (by decide) (fun c_7 => ?_) (fun c_7 => ?_)
        · skip
          have c_7n : n < 0 := nltT (a := n) (b := 0) f1 rfl (by omega) (by omega) c_7
          have c_7m : ¬ 0 ≤ n := by omega
          refine lv_aload_n hx hb dX4_calls_56 rfl (lv_at hl 2 rfl) ?_
          refine lv_dup hx hb dX4_calls_57 rfl ?_
          refine s_get (a := 0) (b := 10) (ci := 3) X hw rfl rfl gX4 6 (by decide) fl_X4_50 rfl rfl dX4_calls_58 ?_
          refine lv_iconst (v := 1) hx hb dX4_calls_61 (by decide) ?_
          refine lv_iadd hx hb dX4_calls_62 ?_
          refine lv_topi (fun v_8 ev_8 => ?_)
          obtain rfl : v_8 = nI (lv + 1) := ev_8.trans (nadd (a := lv) (b := 1) elv rfl)
          clear ev_8
          refine s_put (a := 0) (b := 10) (v := nI (lv + 1)) (ci := 3) (ty := tyX4 6) X hw hS 6 rfl rfl rfl gX4 tyX4 tyX4_ok nmX4 (by decide) fl_X4_50 rfl rfl (tyX4_ok 6 (by decide)) rfl rfl (show 6 < 14 by decide) dX4_calls_63 (fun H locs hw hS => ?_)
          have ez_9 : (tS y 0 10 6 (nI (lv + 1))).1 0 10 6 = nI (lv + 1) := tS_self.trans rfl
          have hI := hI.lvl (v := nI (lv + 1)) ⟨lv + 1, by omega, rfl⟩
          have hk := hk.putS (a := 0) (b := 10) (k := 6) (v := nI (lv + 1)) (by omega)
          refine lv_aload_n hx hb dX4_calls_66 rfl (lv_at hl 2 rfl) ?_
          refine lv_aload_n hx hb dX4_calls_67 rfl (lv_at hl 3 rfl) ?_
          refine m_callv (m_runV (i := nm 0 10) (ci := 3) (As := [.ref (L (nm (cm + 2) 0))]) (rest := []) X (k_X4_enter Γ l L (tS y 0 10 6 (nI (lv + 1))) cm hI (hk.lt hm)) v_X4_enter ml_X4_53 hw hS rfl rfl rfl rfl hl.1 ⟨Nat.le_of_ble_eq_true rfl, Nat.le_of_ble_eq_true rfl⟩ (Nat.le_of_ble_eq_true rfl) ⟨Nat.le_of_ble_eq_true rfl, Nat.le_of_ble_eq_true rfl⟩ dX4_calls_68) hS (fun L1 M1 H locs hp_10 hw hS => ?_)
          obtain ⟨e1, c_10, e2, hI_10, hk_10⟩ := hp_10
          rw [e1, e2] at hw; clear e1 e2
          have ez_10 : c_10.1 0 10 6 = nI (lv + 1) := hk_10.2.trans ez_9
          have hk := hk.tr hk_10.1
          have hI := hI_10
          refine lv_iconst (v := (-1)) hx hb dX4_calls_71 (by decide) ?_
          exact m_iret X hr hlk hw hS (Nat.le_of_ble_eq_true rfl) (Nat.le_of_ble_eq_true rfl) ⟨rfl, _, rfl, hI, hk⟩ dX4_calls_72
        · skip
          have c_7n : ¬ n < 0 := nltF (a := n) (b := 0) f1 rfl (by omega) (by omega) c_7
          have c_7m : 0 ≤ n := by omega
          refine lv_aload_n hx hb dX4_calls_38 rfl (lv_at hl 2 rfl) ?_
          refine s_get (a := 0) (b := 10) (ci := 3) X hw rfl rfl gX4 4 (by decide) fl_X4_35 rfl rfl dX4_calls_39 ?_
          refine lv_iload_n hx hb dX4_calls_42 rfl (lv_at hl 1 rfl) ?_
          refine lv_iload_n hx hb dX4_calls_43 rfl (lv_at hl 0 rfl) ?_
          refine lv_iadd hx hb dX4_calls_44 ?_
          refine lv_aload_n hx hb dX4_calls_45 rfl (lv_at hl 2 rfl) ?_
          refine m_calll (m_runV (i := nm 0 10) (ci := 3) (As := []) (rest := [.int ((((x.1 0 10 6) + 1) * 8) + j), .ref (L (nm 0 19))]) X (k_X4_pop Γ l L y  hI) v_X4_pop ml_X4_116 hw hS rfl rfl rfl rfl hl.1 ⟨Nat.le_of_ble_eq_true rfl, Nat.le_of_ble_eq_true rfl⟩ (Nat.le_of_ble_eq_true rfl) ⟨Nat.le_of_ble_eq_true rfl, Nat.le_of_ble_eq_true rfl⟩ dX4_calls_46) hS (fun r_11 L1 M1 H locs hp_11 hw hS => ?_)
          obtain ⟨e1, c_11, e2, hI_11, hk_11⟩ := hp_11
          rw [e1, e2] at hw; clear e1 e2
          have ez_11 : c_11.1 0 10 6 = nI lv := hk_11.2.trans elv
          have hk := hk.tr hk_11.1
          have hI := hI_11
          have hkl := hkl.tr hk_11
          refine s_last (n := 64) (k := (8 * lv + 8) + n) (v := r_11) X hw hS (fun _ => rfl) (nadd (a := 8 * lv + 8) (b := n) efi f1) (by omega) (by decide) dX4_calls_49 (fun H locs hw hS => ?_)
          have hI := CInv.putJ (a := 0) (b := 19) (j := (8 * lv + 8) + n) (v := r_11) hI
          have hk := hk.putJ (a := 0) (b := 19) (j := (8 * lv + 8) + n) (v := r_11) (by omega)
          have hkl := hkl.putJ (a := 0) (b := 19) (j := (8 * lv + 8) + n) (v := r_11) (by omega)
          refine lv_iinc (v := j + (-1)) (lv' := [(3, .int (j + (-1))), (2, .int (((x.1 0 10 6) + 1) * 8)), (0, .ref (L (nm 0 10))), (1, .ref (L (nm (cm + 2) 0)))]) hx hb dX4_calls_50 hl (k := 0) rfl rfl (by decide) rfl (fun ls hl => ?_)
          refine lv_goto (tgt := 34) hx hb dX4_calls_53 (by decide) ?_
          exact ih _ _ _ _ ls (by omega) (dn_step f1) hI hkl hw hS (lv_sub hl [0, 1, 2, 3] rfl)
    exact KL z_2 _ _ _ _ ls (by omega) (dn_pre ez_2) hI hkl hw hS (lv_sub hl [0, 1, 2, 3] rfl)
  · skip
    have c_1n : ¬ (lv + 1) < 8 := nltF (a := lv + 1) (b := 8) (nadd (a := lv) (b := 1) elv rfl) rfl (by omega) (by omega) c_1
    have c_1m : 8 ≤ (lv + 1) := by omega
    refine lv_iconst (v := 0) hx hb dX4_calls_15 (by decide) ?_
    exact m_iret X hr hlk hw hS (Nat.le_of_ble_eq_true rfl) (Nat.le_of_ble_eq_true rfl) ⟨rfl, _, rfl, hI, hk⟩ dX4_calls_16
set_option maxHeartbeats 4000000 in
set_option maxRecDepth 100000 in
theorem k_X4_callsN (Γ : mG) (l : Launch) (L : mI → Nat) (x : CS)  (hI : CInv x) : mMet Γ l yX4_calls cX4_calls 4 (some .int) { frames := 1, cells := 0, slots := 0, locals := 21 } [.ref (L (nm 0 10)), .null] L (cM Γ L x) (mQi Γ (fun _ => mKf 0 10 10 Γ L x)) := by
  refine m_start (by decide) (Nat.le_of_ble_eq_true rfl) ?_
  intro p e s m args below meth c A ls X hr hlk hnm hw hS hl
  have hx := X.1.1
  have hb := X.1.2.1
  have hl : lv_has ls 4 [(0, .ref (L (nm 0 10))), (1, .null)] := hl
  have hk : kf 0 10 10 x x := kf.rf
  refine lv_aload_nN hx hb dX4_calls_0 rfl (lv_at hl 1 rfl) ?_
  refine lv_ifnullN (tgt := 15) hx hb dX4_calls_1 (by decide) ?_
  refine lv_iconst (v := 0) hx hb dX4_calls_15 (by decide) ?_
  exact m_iret X hr hlk hw hS (Nat.le_of_ble_eq_true rfl) (Nat.le_of_ble_eq_true rfl) ⟨rfl, _, rfl, hI, hk⟩ dX4_calls_16
theorem v_X4_leads : mVm yX4_leads cX4_leads 5 (some .int) 3 := ⟨cd_X4_leads, im_X4_leads, se_X4_leads, ini_X4, by decide, by decide, by decide +kernel⟩
set_option maxHeartbeats 4000000 in
set_option maxRecDepth 100000 in
theorem k_X4_leads (Γ : mG) (l : Launch) (L : mI → Nat) (x : CS) (o : Int32) (v : Int64) (hI : CInv x) : mMet Γ l yX4_leads cX4_leads 5 (some .int) { frames := 2, cells := 0, slots := 0, locals := 44 } [.ref (L (nm 0 10)), .ref (L (nm 0 1)), .int o, .long v] L (cM Γ L x) (mQi Γ (fun _ => mKf 0 10 10 Γ L x)) := by
  refine m_start (by decide) (Nat.le_of_ble_eq_true rfl) ?_
  intro p e s m args below meth c A ls X hr hlk hnm hw hS hl
  have hx := X.1.1
  have hb := X.1.2.1
  have hl : lv_has ls 5 [(0, .ref (L (nm 0 10))), (1, .ref (L (nm 0 1))), (2, .int o), (3, .long v)] := hl
  have hk : kf 0 10 10 x x := kf.rf
  refine lv_iload_n hx hb dX4_leads_0 rfl (lv_at hl 2 rfl) ?_
  by_cases c_1 : o.toInt < 29 ∨ 33 < o.toInt
  · refine lv_tableOut (tgt := 97) hx hb dX4_leads_1 c_1 (by decide) ?_
    refine lv_aload_n hx hb dX4_leads_97 rfl (lv_at hl 0 rfl) ?_
    refine lv_aload_n hx hb dX4_leads_98 rfl (lv_at hl 0 rfl) ?_
    refine m_calli (m_runV (i := nm 0 10) (ci := 3) (As := []) (rest := [.ref (L (nm 0 10))]) X (k_X4_popInt Γ l L x  hI) v_X4_popInt ml_X4_162 hw hS rfl rfl rfl rfl hl.1 ⟨Nat.le_of_ble_eq_true rfl, Nat.le_of_ble_eq_true rfl⟩ (Nat.le_of_ble_eq_true rfl) ⟨Nat.le_of_ble_eq_true rfl, Nat.le_of_ble_eq_true rfl⟩ dX4_leads_99) hS (fun r_2 L1 M1 H locs hp_2 hw hS => ?_)
    obtain ⟨e1, c_2, e2, hI_2, hk_2⟩ := hp_2
    rw [e1, e2] at hw; clear e1 e2
    have hk := hk.tr hk_2.1
    have hI := hI_2
    refine s_put (a := 0) (b := 10) (v := r_2) (ci := 3) (ty := tyX4 8) X hw hS 8 rfl rfl rfl gX4 tyX4 tyX4_ok nmX4 (by decide) fl_X4_97 rfl rfl (tyX4_ok 8 (by decide)) rfl rfl (show 8 < 14 by decide) dX4_leads_102 (fun H locs hw hS => ?_)
    have hI := hI.free (b := 10) (k := 8) (v := r_2) (by decide)
    have hk := hk.putS (a := 0) (b := 10) (k := 8) (v := r_2) (by omega)
    refine lv_bipush (v := 7) hx hb dX4_leads_105 (by decide) ?_
    exact m_iret X hr hlk hw hS (Nat.le_of_ble_eq_true rfl) (Nat.le_of_ble_eq_true rfl) ⟨rfl, _, rfl, hI, hk⟩ dX4_leads_107
  · have c_1b : o.toInt = 29 ∨ o.toInt = 30 ∨ o.toInt = 31 ∨ o.toInt = 32 ∨ o.toInt = 33 := by omega
    rcases c_1b with c_1v | c_1v | c_1v | c_1v | c_1v
    · have c_1e : o = 29 := Int32.toInt_inj.mp c_1v
      refine lv_tableIn (off := 35) (tgt := 36) hx hb dX4_leads_1 (by omega) (by omega) (by rw [c_1v]; rfl) (by decide) ?_
      refine lv_aload_n hx hb dX4_leads_36 rfl (lv_at hl 0 rfl) ?_
      refine lv_iconst (v := 1) hx hb dX4_leads_37 (by decide) ?_
      refine lv_lload_n hx hb dX4_leads_38 rfl (lv_at hl 3 rfl) ?_
      refine m_calli (m_runV (i := nm 0 10) (ci := 3) (As := [.int 1, .long v]) (rest := []) X (k_X4_jumpsIf Γ l L x 1 v hI) v_X4_jumpsIf ml_X4_211 hw hS rfl rfl rfl rfl hl.1 ⟨Nat.le_of_ble_eq_true rfl, Nat.le_of_ble_eq_true rfl⟩ (Nat.le_of_ble_eq_true rfl) ⟨Nat.le_of_ble_eq_true rfl, Nat.le_of_ble_eq_true rfl⟩ dX4_leads_39) hS (fun r_3 L1 M1 H locs hp_3 hw hS => ?_)
      obtain ⟨e1, c_3, e2, hI_3, hk_3⟩ := hp_3
      rw [e1, e2] at hw; clear e1 e2
      have hk := hk.tr hk_3.1
      have hI := hI_3
      exact m_iret X hr hlk hw hS (Nat.le_of_ble_eq_true rfl) (Nat.le_of_ble_eq_true rfl) ⟨rfl, _, rfl, hI, hk⟩ dX4_leads_42
    · have c_1e : o = 30 := Int32.toInt_inj.mp c_1v
      refine lv_tableIn (off := 42) (tgt := 43) hx hb dX4_leads_1 (by omega) (by omega) (by rw [c_1v]; rfl) (by decide) ?_
      refine lv_aload_n hx hb dX4_leads_43 rfl (lv_at hl 0 rfl) ?_
      refine lv_aload_n hx hb dX4_leads_44 rfl (lv_at hl 0 rfl) ?_
      refine m_calli (m_runV (i := nm 0 10) (ci := 3) (As := []) (rest := [.ref (L (nm 0 10))]) X (k_X4_popInt Γ l L x  hI) v_X4_popInt ml_X4_162 hw hS rfl rfl rfl rfl hl.1 ⟨Nat.le_of_ble_eq_true rfl, Nat.le_of_ble_eq_true rfl⟩ (Nat.le_of_ble_eq_true rfl) ⟨Nat.le_of_ble_eq_true rfl, Nat.le_of_ble_eq_true rfl⟩ dX4_leads_45) hS (fun r_4 L1 M1 H locs hp_4 hw hS => ?_)
      obtain ⟨e1, c_4, e2, hI_4, hk_4⟩ := hp_4
      rw [e1, e2] at hw; clear e1 e2
      have hk := hk.tr hk_4.1
      have hI := hI_4
      refine lv_if_ne (tgt := 55) hx hb dX4_leads_48 (by decide) (fun c_5 => ?_) (fun c_5 => ?_)
      · skip
        refine lv_iconst (v := 0) hx hb dX4_leads_55 (by decide) ?_
        refine lv_lload_n hx hb dX4_leads_56 rfl (lv_at hl 3 rfl) ?_
        refine m_calli (m_runV (i := nm 0 10) (ci := 3) (As := [.int 0, .long v]) (rest := []) X (k_X4_jumpsIf Γ l L c_4 0 v hI) v_X4_jumpsIf ml_X4_211 hw hS rfl rfl rfl rfl hl.1 ⟨Nat.le_of_ble_eq_true rfl, Nat.le_of_ble_eq_true rfl⟩ (Nat.le_of_ble_eq_true rfl) ⟨Nat.le_of_ble_eq_true rfl, Nat.le_of_ble_eq_true rfl⟩ dX4_leads_57) hS (fun r_6 L1 M1 H locs hp_6 hw hS => ?_)
        obtain ⟨e1, c_6, e2, hI_6, hk_6⟩ := hp_6
        rw [e1, e2] at hw; clear e1 e2
        have hk := hk.tr hk_6.1
        have hI := hI_6
        exact m_iret X hr hlk hw hS (Nat.le_of_ble_eq_true rfl) (Nat.le_of_ble_eq_true rfl) ⟨rfl, _, rfl, hI, hk⟩ dX4_leads_60
      · skip
        refine lv_iconst (v := 1) hx hb dX4_leads_51 (by decide) ?_
        refine lv_goto (tgt := 56) hx hb dX4_leads_52 (by decide) ?_
        refine lv_lload_n hx hb dX4_leads_56 rfl (lv_at hl 3 rfl) ?_
        refine m_calli (m_runV (i := nm 0 10) (ci := 3) (As := [.int 1, .long v]) (rest := []) X (k_X4_jumpsIf Γ l L c_4 1 v hI) v_X4_jumpsIf ml_X4_211 hw hS rfl rfl rfl rfl hl.1 ⟨Nat.le_of_ble_eq_true rfl, Nat.le_of_ble_eq_true rfl⟩ (Nat.le_of_ble_eq_true rfl) ⟨Nat.le_of_ble_eq_true rfl, Nat.le_of_ble_eq_true rfl⟩ dX4_leads_57) hS (fun r_7 L1 M1 H locs hp_7 hw hS => ?_)
        obtain ⟨e1, c_7, e2, hI_7, hk_7⟩ := hp_7
        rw [e1, e2] at hw; clear e1 e2
        have hk := hk.tr hk_7.1
        have hI := hI_7
        exact m_iret X hr hlk hw hS (Nat.le_of_ble_eq_true rfl) (Nat.le_of_ble_eq_true rfl) ⟨rfl, _, rfl, hI, hk⟩ dX4_leads_60
    · have c_1e : o = 31 := Int32.toInt_inj.mp c_1v
      refine lv_tableIn (off := 60) (tgt := 61) hx hb dX4_leads_1 (by omega) (by omega) (by rw [c_1v]; rfl) (by decide) ?_
      refine lv_aload_n hx hb dX4_leads_61 rfl (lv_at hl 0 rfl) ?_
      refine lv_aload_n hx hb dX4_leads_62 rfl (lv_at hl 0 rfl) ?_
      refine s_get (a := 0) (b := 10) (ci := 3) X hw rfl rfl gX4 0 (by decide) fl_X4_14 rfl rfl dX4_leads_63 ?_
      refine lv_aload_n hx hb dX4_leads_66 rfl (lv_at hl 0 rfl) ?_
      refine m_calli (m_runV (i := nm 0 10) (ci := 3) (As := []) (rest := [.ref (L (nm 0 11)), .ref (L (nm 0 10))]) X (k_X4_popInt Γ l L x  hI) v_X4_popInt ml_X4_162 hw hS rfl rfl rfl rfl hl.1 ⟨Nat.le_of_ble_eq_true rfl, Nat.le_of_ble_eq_true rfl⟩ (Nat.le_of_ble_eq_true rfl) ⟨Nat.le_of_ble_eq_true rfl, Nat.le_of_ble_eq_true rfl⟩ dX4_leads_67) hS (fun r_8 L1 M1 H locs hp_8 hw hS => ?_)
      obtain ⟨e1, c_8, e2, hI_8, hk_8⟩ := hp_8
      rw [e1, e2] at hw; clear e1 e2
      have hk := hk.tr hk_8.1
      have hI := hI_8
      refine m_calli (m_runV (i := nm 0 11) (ci := 1) (As := [.int r_8]) (rest := [.ref (L (nm 0 10))]) X (k_X1_isNull Γ l L c_8 r_8) v_X1_isNull ml_X4_178 hw hS rfl rfl rfl rfl hl.1 ⟨Nat.le_of_ble_eq_true rfl, Nat.le_of_ble_eq_true rfl⟩ (Nat.le_of_ble_eq_true rfl) ⟨Nat.le_of_ble_eq_true rfl, Nat.le_of_ble_eq_true rfl⟩ dX4_leads_70) hS (fun r_9 L1 M1 H locs hp_9 hw hS => ?_)
      obtain ⟨rfl, e1, e2⟩ := hp_9
      rw [e1, e2] at hw; clear e1 e2
      refine lv_lload_n hx hb dX4_leads_73 rfl (lv_at hl 3 rfl) ?_
      refine m_calli (m_runV (i := nm 0 10) (ci := 3) (As := [.int (bI (h_nul (c_8.1 0 11 4) r_8)), .long v]) (rest := []) X (k_X4_jumpsIf Γ l L c_8 (bI (h_nul (c_8.1 0 11 4) r_8)) v hI) v_X4_jumpsIf ml_X4_211 hw hS rfl rfl rfl rfl hl.1 ⟨Nat.le_of_ble_eq_true rfl, Nat.le_of_ble_eq_true rfl⟩ (Nat.le_of_ble_eq_true rfl) ⟨Nat.le_of_ble_eq_true rfl, Nat.le_of_ble_eq_true rfl⟩ dX4_leads_74) hS (fun r_10 L1 M1 H locs hp_10 hw hS => ?_)
      obtain ⟨e1, c_10, e2, hI_10, hk_10⟩ := hp_10
      rw [e1, e2] at hw; clear e1 e2
      have hk := hk.tr hk_10.1
      have hI := hI_10
      exact m_iret X hr hlk hw hS (Nat.le_of_ble_eq_true rfl) (Nat.le_of_ble_eq_true rfl) ⟨rfl, _, rfl, hI, hk⟩ dX4_leads_77
    · have c_1e : o = 32 := Int32.toInt_inj.mp c_1v
      refine lv_tableIn (off := 77) (tgt := 78) hx hb dX4_leads_1 (by omega) (by omega) (by rw [c_1v]; rfl) (by decide) ?_
      refine lv_aload_n hx hb dX4_leads_78 rfl (lv_at hl 0 rfl) ?_
      refine lv_aload_n hx hb dX4_leads_79 rfl (lv_at hl 0 rfl) ?_
      refine m_calli (m_runV (i := nm 0 10) (ci := 3) (As := []) (rest := [.ref (L (nm 0 10))]) X (k_X4_popInt Γ l L x  hI) v_X4_popInt ml_X4_162 hw hS rfl rfl rfl rfl hl.1 ⟨Nat.le_of_ble_eq_true rfl, Nat.le_of_ble_eq_true rfl⟩ (Nat.le_of_ble_eq_true rfl) ⟨Nat.le_of_ble_eq_true rfl, Nat.le_of_ble_eq_true rfl⟩ dX4_leads_80) hS (fun r_11 L1 M1 H locs hp_11 hw hS => ?_)
      obtain ⟨e1, c_11, e2, hI_11, hk_11⟩ := hp_11
      rw [e1, e2] at hw; clear e1 e2
      have hk := hk.tr hk_11.1
      have hI := hI_11
      refine m_calli (m_runV (i := nm 0 10) (ci := 3) (As := [.int r_11]) (rest := []) X (k_X4_returns Γ l L c_11 r_11 hI) v_X4_returns ml_X4_215 hw hS rfl rfl rfl rfl hl.1 ⟨Nat.le_of_ble_eq_true rfl, Nat.le_of_ble_eq_true rfl⟩ (Nat.le_of_ble_eq_true rfl) ⟨Nat.le_of_ble_eq_true rfl, Nat.le_of_ble_eq_true rfl⟩ dX4_leads_83) hS (fun r_12 L1 M1 H locs hp_12 hw hS => ?_)
      obtain ⟨e1, c_12, e2, hI_12, hk_12⟩ := hp_12
      rw [e1, e2] at hw; clear e1 e2
      have hk := hk.tr hk_12
      have hI := hI_12
      exact m_iret X hr hlk hw hS (Nat.le_of_ble_eq_true rfl) (Nat.le_of_ble_eq_true rfl) ⟨rfl, _, rfl, hI, hk⟩ dX4_leads_86
    · have c_1e : o = 33 := Int32.toInt_inj.mp c_1v
      refine lv_tableIn (off := 86) (tgt := 87) hx hb dX4_leads_1 (by omega) (by omega) (by rw [c_1v]; rfl) (by decide) ?_
      refine lv_aload_n hx hb dX4_leads_87 rfl (lv_at hl 0 rfl) ?_
      refine lv_aload_n hx hb dX4_leads_88 rfl (lv_at hl 1 rfl) ?_
      refine lv_lload_n hx hb dX4_leads_89 rfl (lv_at hl 3 rfl) ?_
      refine m_callq (m_runV (i := nm 0 1) (ci := 5) (As := [.long v]) (rest := [.ref (L (nm 0 10))]) X (k_X7_at Γ l L x v hI.1) v_X7_at ml_X4_218 hw hS rfl rfl rfl rfl hl.1 ⟨Nat.le_of_ble_eq_true rfl, Nat.le_of_ble_eq_true rfl⟩ (Nat.le_of_ble_eq_true rfl) ⟨Nat.le_of_ble_eq_true rfl, Nat.le_of_ble_eq_true rfl⟩ dX4_leads_90) hS (fun r_13 L1 M1 H locs hp_13 hw hS => ?_)
      obtain ⟨e1, e2, hq_13⟩ := hp_13
      rw [e1, e2] at hw; clear e1 e2
      rcases hq_13 with ⟨rfl, hno_13⟩ | ⟨k_13, hk_13, ev_13, rfl⟩
      · skip
        refine va_rf_none ?_
        refine m_calli (m_runV (i := nm 0 10) (ci := 3) (As := [.null]) (rest := []) X (k_X4_callsN Γ l L x hI) v_X4_calls ml_X4_222 hw hS rfl rfl rfl rfl hl.1 ⟨Nat.le_of_ble_eq_true rfl, Nat.le_of_ble_eq_true rfl⟩ (Nat.le_of_ble_eq_true rfl) ⟨Nat.le_of_ble_eq_true rfl, Nat.le_of_ble_eq_true rfl⟩ dX4_leads_93) hS (fun r_14 L1 M1 H locs hp_14 hw hS => ?_)
        obtain ⟨e1, c_14, e2, hI_14, hk_14⟩ := hp_14
        rw [e1, e2] at hw; clear e1 e2
        have hk := hk.tr hk_14
        have hI := hI_14
        exact m_iret X hr hlk hw hS (Nat.le_of_ble_eq_true rfl) (Nat.le_of_ble_eq_true rfl) ⟨rfl, _, rfl, hI, hk⟩ dX4_leads_96
      · skip
        refine va_rf_some ?_
        have hx_13 : k_13 < cN x := hk.bk hk_13
        refine m_calli (m_runV (i := nm 0 10) (ci := 3) (As := [.ref (L (nm (k_13 + 2) 0))]) (rest := []) X (k_X4_calls Γ l L x k_13 hI (hk.lt hx_13)) v_X4_calls ml_X4_222 hw hS rfl rfl rfl rfl hl.1 ⟨Nat.le_of_ble_eq_true rfl, Nat.le_of_ble_eq_true rfl⟩ (Nat.le_of_ble_eq_true rfl) ⟨Nat.le_of_ble_eq_true rfl, Nat.le_of_ble_eq_true rfl⟩ dX4_leads_93) hS (fun r_15 L1 M1 H locs hp_15 hw hS => ?_)
        obtain ⟨e1, c_15, e2, hI_15, hk_15⟩ := hp_15
        rw [e1, e2] at hw; clear e1 e2
        have hk := hk.tr hk_15
        have hI := hI_15
        exact m_iret X hr hlk hw hS (Nat.le_of_ble_eq_true rfl) (Nat.le_of_ble_eq_true rfl) ⟨rfl, _, rfl, hI, hk⟩ dX4_leads_96
theorem v_X4_does : mVm yX4_does cX4_does 5 (some .int) 3 := ⟨cd_X4_does, im_X4_does, se_X4_does, ini_X4, by decide, by decide, by decide +kernel⟩
set_option maxHeartbeats 4000000 in
set_option maxRecDepth 100000 in
theorem k_X4_does (Γ : mG) (l : Launch) (L : mI → Nat) (x : CS) (o : Int32) (v : Int64) (hI : CInv x) : mMet Γ l yX4_does cX4_does 5 (some .int) { frames := 4, cells := 0, slots := 0, locals := 96 } [.ref (L (nm 0 10)), .ref (L (nm 0 1)), .int o, .long v] L (cM Γ L x) (mQi Γ (fun _ => mKf 0 10 10 Γ L x)) := by
  refine m_start (by decide) (Nat.le_of_ble_eq_true rfl) ?_
  intro p e s m args below meth c A ls X hr hlk hnm hw hS hl
  have hx := X.1.1
  have hb := X.1.2.1
  have hl : lv_has ls 5 [(0, .ref (L (nm 0 10))), (1, .ref (L (nm 0 1))), (2, .int o), (3, .long v)] := hl
  have hk : kf 0 10 10 x x := kf.rf
  refine lv_iload_n hx hb dX4_does_0 rfl (lv_at hl 2 rfl) ?_
  refine lv_bipush (v := 6) hx hb dX4_does_1 (by decide) ?_
  refine lv_icmp_gt (tgt := 13) hx hb dX4_does_3 (by decide) (fun c_1 => ?_) (fun c_1 => ?_)
  · skip
    refine lv_iload_n hx hb dX4_does_13 rfl (lv_at hl 2 rfl) ?_
    refine lv_bipush (v := 11) hx hb dX4_does_14 (by decide) ?_
    refine lv_icmp_gt (tgt := 26) hx hb dX4_does_16 (by decide) (fun c_2 => ?_) (fun c_2 => ?_)
    · skip
      refine lv_iload_n hx hb dX4_does_26 rfl (lv_at hl 2 rfl) ?_
      refine lv_bipush (v := 15) hx hb dX4_does_27 (by decide) ?_
      refine lv_icmp_gt (tgt := 39) hx hb dX4_does_29 (by decide) (fun c_3 => ?_) (fun c_3 => ?_)
      · skip
        refine lv_iload_n hx hb dX4_does_39 rfl (lv_at hl 2 rfl) ?_
        refine lv_bipush (v := 20) hx hb dX4_does_40 (by decide) ?_
        refine lv_icmp_gt (tgt := 51) hx hb dX4_does_42 (by decide) (fun c_4 => ?_) (fun c_4 => ?_)
        · skip
          refine lv_iload_n hx hb dX4_does_51 rfl (lv_at hl 2 rfl) ?_
          refine lv_bipush (v := 22) hx hb dX4_does_52 (by decide) ?_
          refine lv_icmp_gt (tgt := 65) hx hb dX4_does_54 (by decide) (fun c_5 => ?_) (fun c_5 => ?_)
          · skip
            refine lv_iload_n hx hb dX4_does_65 rfl (lv_at hl 2 rfl) ?_
            refine lv_bipush (v := 25) hx hb dX4_does_66 (by decide) ?_
            refine lv_icmp_gt (tgt := 77) hx hb dX4_does_68 (by decide) (fun c_6 => ?_) (fun c_6 => ?_)
            · skip
              refine lv_iload_n hx hb dX4_does_77 rfl (lv_at hl 2 rfl) ?_
              refine lv_bipush (v := 28) hx hb dX4_does_78 (by decide) ?_
              refine lv_icmp_gt (tgt := 89) hx hb dX4_does_80 (by decide) (fun c_7 => ?_) (fun c_7 => ?_)
              · skip
                refine lv_aload_n hx hb dX4_does_89 rfl (lv_at hl 0 rfl) ?_
                refine lv_aload_n hx hb dX4_does_90 rfl (lv_at hl 1 rfl) ?_
                refine lv_iload_n hx hb dX4_does_91 rfl (lv_at hl 2 rfl) ?_
                refine lv_lload_n hx hb dX4_does_92 rfl (lv_at hl 3 rfl) ?_
                refine m_calli (m_runV (i := nm 0 10) (ci := 3) (As := [.ref (L (nm 0 1)), .int o, .long v]) (rest := []) X (k_X4_leads Γ l L x o v hI) v_X4_leads ml_X4_145 hw hS rfl rfl rfl rfl hl.1 ⟨Nat.le_of_ble_eq_true rfl, Nat.le_of_ble_eq_true rfl⟩ (Nat.le_of_ble_eq_true rfl) ⟨Nat.le_of_ble_eq_true rfl, Nat.le_of_ble_eq_true rfl⟩ dX4_does_93) hS (fun r_8 L1 M1 H locs hp_8 hw hS => ?_)
                obtain ⟨e1, c_8, e2, hI_8, hk_8⟩ := hp_8
                rw [e1, e2] at hw; clear e1 e2
                have hk := hk.tr hk_8
                have hI := hI_8
                exact m_iret X hr hlk hw hS (Nat.le_of_ble_eq_true rfl) (Nat.le_of_ble_eq_true rfl) ⟨rfl, _, rfl, hI, hk⟩ dX4_does_96
              · skip
                refine lv_aload_n hx hb dX4_does_83 rfl (lv_at hl 0 rfl) ?_
                refine lv_iload_n hx hb dX4_does_84 rfl (lv_at hl 2 rfl) ?_
                refine m_calli (m_runV (i := nm 0 10) (ci := 3) (As := [.int o]) (rest := []) X (k_X4_turns Γ l L x o hI) v_X4_turns ml_X4_142 hw hS rfl rfl rfl rfl hl.1 ⟨Nat.le_of_ble_eq_true rfl, Nat.le_of_ble_eq_true rfl⟩ (Nat.le_of_ble_eq_true rfl) ⟨Nat.le_of_ble_eq_true rfl, Nat.le_of_ble_eq_true rfl⟩ dX4_does_85) hS (fun r_9 L1 M1 H locs hp_9 hw hS => ?_)
                obtain ⟨e1, c_9, e2, hI_9, hk_9⟩ := hp_9
                rw [e1, e2] at hw; clear e1 e2
                have hk := hk.tr hk_9.1
                have hI := hI_9
                exact m_iret X hr hlk hw hS (Nat.le_of_ble_eq_true rfl) (Nat.le_of_ble_eq_true rfl) ⟨rfl, _, rfl, hI, hk⟩ dX4_does_88
            · skip
              refine lv_aload_n hx hb dX4_does_71 rfl (lv_at hl 0 rfl) ?_
              refine lv_iload_n hx hb dX4_does_72 rfl (lv_at hl 2 rfl) ?_
              refine m_calli (m_runV (i := nm 0 10) (ci := 3) (As := [.int o]) (rest := []) X (k_X4_usesObject Γ l L x o hI) v_X4_usesObject ml_X4_139 hw hS rfl rfl rfl rfl hl.1 ⟨Nat.le_of_ble_eq_true rfl, Nat.le_of_ble_eq_true rfl⟩ (Nat.le_of_ble_eq_true rfl) ⟨Nat.le_of_ble_eq_true rfl, Nat.le_of_ble_eq_true rfl⟩ dX4_does_73) hS (fun r_10 L1 M1 H locs hp_10 hw hS => ?_)
              obtain ⟨e1, c_10, e2, hI_10, hk_10⟩ := hp_10
              rw [e1, e2] at hw; clear e1 e2
              have hk := hk.tr hk_10.1
              have hI := hI_10
              exact m_iret X hr hlk hw hS (Nat.le_of_ble_eq_true rfl) (Nat.le_of_ble_eq_true rfl) ⟨rfl, _, rfl, hI, hk⟩ dX4_does_76
          · skip
            refine lv_aload_n hx hb dX4_does_57 rfl (lv_at hl 0 rfl) ?_
            refine lv_iload_n hx hb dX4_does_58 rfl (lv_at hl 2 rfl) ?_
            refine lv_lload_n hx hb dX4_does_59 rfl (lv_at hl 3 rfl) ?_
            refine lv_l2i (v := v.toInt32) hx hb dX4_does_60 rfl ?_
            refine m_calli (m_runV (i := nm 0 10) (ci := 3) (As := [.int o, .int v.toInt32]) (rest := []) X (k_X4_asks Γ l L x o v.toInt32 hI) v_X4_asks ml_X4_136 hw hS rfl rfl rfl rfl hl.1 ⟨Nat.le_of_ble_eq_true rfl, Nat.le_of_ble_eq_true rfl⟩ (Nat.le_of_ble_eq_true rfl) ⟨Nat.le_of_ble_eq_true rfl, Nat.le_of_ble_eq_true rfl⟩ dX4_does_61) hS (fun r_11 L1 M1 H locs hp_11 hw hS => ?_)
            obtain ⟨e1, c_11, e2, hI_11, hk_11⟩ := hp_11
            rw [e1, e2] at hw; clear e1 e2
            have hk := hk.tr hk_11.1
            have hI := hI_11
            exact m_iret X hr hlk hw hS (Nat.le_of_ble_eq_true rfl) (Nat.le_of_ble_eq_true rfl) ⟨rfl, _, rfl, hI, hk⟩ dX4_does_64
        · skip
          refine lv_aload_n hx hb dX4_does_45 rfl (lv_at hl 0 rfl) ?_
          refine lv_iload_n hx hb dX4_does_46 rfl (lv_at hl 2 rfl) ?_
          refine m_calli (m_runV (i := nm 0 10) (ci := 3) (As := [.int o]) (rest := []) X (k_X4_usesArray Γ l L x o hI) v_X4_usesArray ml_X4_132 hw hS rfl rfl rfl rfl hl.1 ⟨Nat.le_of_ble_eq_true rfl, Nat.le_of_ble_eq_true rfl⟩ (Nat.le_of_ble_eq_true rfl) ⟨Nat.le_of_ble_eq_true rfl, Nat.le_of_ble_eq_true rfl⟩ dX4_does_47) hS (fun r_12 L1 M1 H locs hp_12 hw hS => ?_)
          obtain ⟨e1, c_12, e2, hI_12, hk_12⟩ := hp_12
          rw [e1, e2] at hw; clear e1 e2
          have hk := hk.tr hk_12.1
          have hI := hI_12
          exact m_iret X hr hlk hw hS (Nat.le_of_ble_eq_true rfl) (Nat.le_of_ble_eq_true rfl) ⟨rfl, _, rfl, hI, hk⟩ dX4_does_50
      · skip
        refine lv_aload_n hx hb dX4_does_32 rfl (lv_at hl 0 rfl) ?_
        refine lv_iload_n hx hb dX4_does_33 rfl (lv_at hl 2 rfl) ?_
        refine lv_lload_n hx hb dX4_does_34 rfl (lv_at hl 3 rfl) ?_
        refine m_calli (m_runV (i := nm 0 10) (ci := 3) (As := [.int o, .long v]) (rest := []) X (k_X4_makes Γ l L x o v hI) v_X4_makes ml_X4_129 hw hS rfl rfl rfl rfl hl.1 ⟨Nat.le_of_ble_eq_true rfl, Nat.le_of_ble_eq_true rfl⟩ (Nat.le_of_ble_eq_true rfl) ⟨Nat.le_of_ble_eq_true rfl, Nat.le_of_ble_eq_true rfl⟩ dX4_does_35) hS (fun r_13 L1 M1 H locs hp_13 hw hS => ?_)
        obtain ⟨e1, c_13, e2, hI_13, hk_13⟩ := hp_13
        rw [e1, e2] at hw; clear e1 e2
        have hk := hk.tr hk_13.1
        have hI := hI_13
        exact m_iret X hr hlk hw hS (Nat.le_of_ble_eq_true rfl) (Nat.le_of_ble_eq_true rfl) ⟨rfl, _, rfl, hI, hk⟩ dX4_does_38
    · skip
      refine lv_aload_n hx hb dX4_does_19 rfl (lv_at hl 0 rfl) ?_
      refine lv_iload_n hx hb dX4_does_20 rfl (lv_at hl 2 rfl) ?_
      refine lv_lload_n hx hb dX4_does_21 rfl (lv_at hl 3 rfl) ?_
      refine m_calli (m_runV (i := nm 0 10) (ci := 3) (As := [.int o, .long v]) (rest := []) X (k_X4_reckons Γ l L x o v hI) v_X4_reckons ml_X4_126 hw hS rfl rfl rfl rfl hl.1 ⟨Nat.le_of_ble_eq_true rfl, Nat.le_of_ble_eq_true rfl⟩ (Nat.le_of_ble_eq_true rfl) ⟨Nat.le_of_ble_eq_true rfl, Nat.le_of_ble_eq_true rfl⟩ dX4_does_22) hS (fun r_14 L1 M1 H locs hp_14 hw hS => ?_)
      obtain ⟨e1, c_14, e2, hI_14, hk_14⟩ := hp_14
      rw [e1, e2] at hw; clear e1 e2
      have hk := hk.tr hk_14.1
      have hI := hI_14
      exact m_iret X hr hlk hw hS (Nat.le_of_ble_eq_true rfl) (Nat.le_of_ble_eq_true rfl) ⟨rfl, _, rfl, hI, hk⟩ dX4_does_25
  · skip
    refine lv_aload_n hx hb dX4_does_6 rfl (lv_at hl 0 rfl) ?_
    refine lv_iload_n hx hb dX4_does_7 rfl (lv_at hl 2 rfl) ?_
    refine lv_lload_n hx hb dX4_does_8 rfl (lv_at hl 3 rfl) ?_
    refine m_calli (m_runV (i := nm 0 10) (ci := 3) (As := [.int o, .long v]) (rest := []) X (k_X4_moves Γ l L x o v hI) v_X4_moves ml_X4_122 hw hS rfl rfl rfl rfl hl.1 ⟨Nat.le_of_ble_eq_true rfl, Nat.le_of_ble_eq_true rfl⟩ (Nat.le_of_ble_eq_true rfl) ⟨Nat.le_of_ble_eq_true rfl, Nat.le_of_ble_eq_true rfl⟩ dX4_does_9) hS (fun r_15 L1 M1 H locs hp_15 hw hS => ?_)
    obtain ⟨e1, c_15, e2, hI_15, hk_15⟩ := hp_15
    rw [e1, e2] at hw; clear e1 e2
    have hk := hk.tr hk_15.1
    have hI := hI_15
    exact m_iret X hr hlk hw hS (Nat.le_of_ble_eq_true rfl) (Nat.le_of_ble_eq_true rfl) ⟨rfl, _, rfl, hI, hk⟩ dX4_does_12
theorem v_X4_catches : mVm yX4_catches cX4_catches 5 (some .boolean) 3 := ⟨cd_X4_catches, im_X4_catches, se_X4_catches, ini_X4, by decide, by decide, by decide +kernel⟩
set_option maxHeartbeats 4000000 in
set_option maxRecDepth 100000 in
theorem k_X4_catches (Γ : mG) (l : Launch) (L : mI → Nat) (x : CS) (cm : Nat) (k : Int32) (w : Int32) (hI : CInv x) (hm : cm < cN x) : mMet Γ l yX4_catches cX4_catches 5 (some .boolean) { frames := 2, cells := 0, slots := 0, locals := 45 } [.ref (L (nm 0 10)), .ref (L (nm (cm + 2) 0)), .int k, .int w] L (cM Γ L x) (mQi Γ (fun r L1 M1 => (∃ t : Bool, r = bI t) ∧ mKl Γ L x L1 M1)) := by
  refine m_start (by decide) (Nat.le_of_ble_eq_true rfl) ?_
  intro p e s m args below meth c A ls X hr hlk hnm hw hS hl
  have hx := X.1.1
  have hb := X.1.2.1
  have hl : lv_has ls 5 [(0, .ref (L (nm 0 10))), (1, .ref (L (nm (cm + 2) 0))), (2, .int k), (3, .int w)] := hl
  have hk : kl x x := kl.rf
  refine lv_aload_n hx hb dX4_catches_0 rfl (lv_at hl 1 rfl) ?_
  refine lv_ifnonnull (tgt := 8) hx hb dX4_catches_1 (by decide) ?_
  refine lv_aload_n hx hb dX4_catches_8 rfl (lv_at hl 1 rfl) ?_
  refine lv_aload_n hx hb dX4_catches_9 rfl (lv_at hl 0 rfl) ?_
  refine s_get (a := 0) (b := 10) (ci := 3) X hw rfl rfl gX4 2 (by decide) fl_X4_26 rfl rfl dX4_catches_10 ?_
  refine lv_aload_n hx hb dX4_catches_13 rfl (lv_at hl 0 rfl) ?_
  refine s_get (a := 0) (b := 10) (ci := 3) X hw rfl rfl gX4 6 (by decide) fl_X4_50 rfl rfl dX4_catches_14 ?_
  obtain ⟨z_1, hz_1, ez_1⟩ := hI.2.2.2.1
  refine s_iald (n := 8) (k := z_1) X hw rfl ez_1 (by omega) (by decide) dX4_catches_17 ?_
  refine lv_iload_n hx hb dX4_catches_18 rfl (lv_at hl 2 rfl) ?_
  refine m_calli (m_runV (i := nm (cm + 2) 0) (ci := 0) (As := [.int (x.2.1 0 17 z_1), .int k]) (rest := []) X (k_X0_handlerFor Γ l L x cm (x.2.1 0 17 z_1) k hI (hk.lt hm)) v_X0_handlerFor ml_X4_108 hw hS (c_cell (hk.lt hm) 0 _ _ _) rfl rfl rfl hl.1 ⟨Nat.le_of_ble_eq_true rfl, Nat.le_of_ble_eq_true rfl⟩ (Nat.le_of_ble_eq_true rfl) ⟨Nat.le_of_ble_eq_true rfl, Nat.le_of_ble_eq_true rfl⟩ dX4_catches_19) hS (fun r_2 L1 M1 H locs hp_2 hw hS => ?_)
  obtain ⟨e1, e2⟩ := hp_2
  rw [e1, e2] at hw; clear e1 e2
  refine lv_istore (lv' := [(4, .int r_2), (0, .ref (L (nm 0 10))), (1, .ref (L (nm (cm + 2) 0))), (2, .int k), (3, .int w)]) hx hb dX4_catches_22 hl (by decide) rfl (fun ls hl => ?_)
  refine lv_iload hx hb dX4_catches_24 (lv_at hl 0 rfl) ?_
  refine lv_if_ge (tgt := 31) hx hb dX4_catches_26 (by decide) (fun c_3 => ?_) (fun c_3 => ?_)
  · skip
    refine lv_aload_n hx hb dX4_catches_31 rfl (lv_at hl 1 rfl) ?_
    refine s_get (a := 0) (b := 10) (ci := 3) X hw rfl rfl gX4 2 (by decide) fl_X4_26 rfl rfl dX4_catches_32 ?_
    refine lv_aload_n hx hb dX4_catches_35 rfl (lv_at hl 1 rfl) ?_
    refine s_get (a := 0) (b := 10) (ci := 3) X hw rfl rfl gX4 6 (by decide) fl_X4_50 rfl rfl dX4_catches_36 ?_
    refine lv_iload hx hb dX4_catches_39 (lv_at hl 0 rfl) ?_
    refine s_iast (n := 8) (k := z_1) (v := r_2) X hw hS (fun _ => rfl) ez_1 (by omega) (by decide) dX4_catches_41 (fun H locs hw hS => ?_)
    have hI := hI.putV (a := 0) (b := 17) (j := z_1) (v := r_2) (by omega)
    have hk := hk.putV (a := 0) (b := 17) (j := z_1) (v := r_2) (by omega)
    refine lv_aload_n hx hb dX4_catches_42 rfl (lv_at hl 1 rfl) ?_
    refine s_get (a := 0) (b := 10) (ci := 3) X hw rfl rfl gX4 3 (by decide) fl_X4_30 rfl rfl dX4_catches_43 ?_
    refine lv_aload_n hx hb dX4_catches_46 rfl (lv_at hl 1 rfl) ?_
    refine s_get (a := 0) (b := 10) (ci := 3) X hw rfl rfl gX4 6 (by decide) fl_X4_50 rfl rfl dX4_catches_47 ?_
    refine lv_iconst (v := 0) hx hb dX4_catches_50 (by decide) ?_
    refine s_iast (n := 8) (k := z_1) (v := 0) X hw hS (fun _ => rfl) ez_1 (by omega) (by decide) dX4_catches_51 (fun H locs hw hS => ?_)
    have hI := hI.putV (a := 0) (b := 18) (j := z_1) (v := 0) (by omega)
    have hk := hk.putV (a := 0) (b := 18) (j := z_1) (v := 0) (by omega)
    refine lv_aload_n hx hb dX4_catches_52 rfl (lv_at hl 1 rfl) ?_
    refine lv_iload_n hx hb dX4_catches_53 rfl (lv_at hl 4 rfl) ?_
    refine lv_i2l (v := w.toInt64) hx hb dX4_catches_54 rfl ?_
    refine m_callv (m_runV (i := nm 0 10) (ci := 3) (As := [.long w.toInt64]) (rest := []) X (k_X4_push Γ l L (tV (tV x 0 17 z_1 r_2) 0 18 z_1 0) w.toInt64 hI) v_X4_push ml_X4_112 hw hS rfl rfl rfl rfl hl.1 ⟨Nat.le_of_ble_eq_true rfl, Nat.le_of_ble_eq_true rfl⟩ (Nat.le_of_ble_eq_true rfl) ⟨Nat.le_of_ble_eq_true rfl, Nat.le_of_ble_eq_true rfl⟩ dX4_catches_55) hS (fun L1 M1 H locs hp_4 hw hS => ?_)
    obtain ⟨e1, c_4, e2, hI_4, hk_4⟩ := hp_4
    rw [e1, e2] at hw; clear e1 e2
    have ez_4 : c_4.1 0 10 6 = nI z_1 := hk_4.2.trans ez_1
    have hk := hk.tr hk_4
    have hI := hI_4
    refine lv_iconst (v := 1) hx hb dX4_catches_58 (by decide) ?_
    exact m_zret (b := true) X hr hlk hw hS (Nat.le_of_ble_eq_true rfl) (Nat.le_of_ble_eq_true rfl) rfl ⟨⟨_, rfl⟩, ⟨rfl, _, rfl, hI, hk⟩⟩ dX4_catches_59
  · skip
    refine lv_iconst (v := 0) hx hb dX4_catches_29 (by decide) ?_
    exact m_zret (b := false) X hr hlk hw hS (Nat.le_of_ble_eq_true rfl) (Nat.le_of_ble_eq_true rfl) rfl ⟨⟨_, rfl⟩, ⟨rfl, _, rfl, hI, hk⟩⟩ dX4_catches_30
set_option maxHeartbeats 4000000 in
set_option maxRecDepth 100000 in
theorem k_X4_catchesN (Γ : mG) (l : Launch) (L : mI → Nat) (x : CS) (k : Int32) (w : Int32) (hI : CInv x) : mMet Γ l yX4_catches cX4_catches 5 (some .boolean) { frames := 2, cells := 0, slots := 0, locals := 45 } [.ref (L (nm 0 10)), .null, .int k, .int w] L (cM Γ L x) (mQi Γ (fun r L1 M1 => (∃ t : Bool, r = bI t) ∧ mKl Γ L x L1 M1)) := by
  refine m_start (by decide) (Nat.le_of_ble_eq_true rfl) ?_
  intro p e s m args below meth c A ls X hr hlk hnm hw hS hl
  have hx := X.1.1
  have hb := X.1.2.1
  have hl : lv_has ls 5 [(0, .ref (L (nm 0 10))), (1, .null), (2, .int k), (3, .int w)] := hl
  have hk : kl x x := kl.rf
  refine lv_aload_nN hx hb dX4_catches_0 rfl (lv_at hl 1 rfl) ?_
  refine lv_ifnonnullN hx hb dX4_catches_1 ?_
  refine lv_iconst (v := (-1)) hx hb dX4_catches_4 (by decide) ?_
  refine lv_goto (tgt := 22) hx hb dX4_catches_5 (by decide) ?_
  refine lv_istore (lv' := [(4, .int (-1)), (0, .ref (L (nm 0 10))), (1, .null), (2, .int k), (3, .int w)]) hx hb dX4_catches_22 hl (by decide) rfl (fun ls hl => ?_)
  refine lv_iload hx hb dX4_catches_24 (lv_at hl 0 rfl) ?_
  refine lv_if_ge (tgt := 31) hx hb dX4_catches_26 (by decide) (fun c_1 => ?_) (fun c_1 => ?_)
  · skip
    exact absurd c_1 (by decide)
  · skip
    refine lv_iconst (v := 0) hx hb dX4_catches_29 (by decide) ?_
    exact m_zret (b := false) X hr hlk hw hS (Nat.le_of_ble_eq_true rfl) (Nat.le_of_ble_eq_true rfl) rfl ⟨⟨_, rfl⟩, ⟨rfl, _, rfl, hI, hk⟩⟩ dX4_catches_30
theorem v_X4_arises : mVm yX4_arises cX4_arises 5 none 1 := ⟨cd_X4_arises, im_X4_arises, se_X4_arises, ini_X4, by decide, by decide, by decide +kernel⟩
set_option maxHeartbeats 4000000 in
set_option maxRecDepth 100000 in
theorem k_X4_arises (Γ : mG) (l : Launch) (L : mI → Nat) (x : CS) (k : Int32) (hI : CInv x) : mMet Γ l yX4_arises cX4_arises 5 none { frames := 3, cells := 0, slots := 0, locals := 69 } [.ref (L (nm 0 10)), .int k] L (cM Γ L x) (mQv Γ (mKf 0 10 10 Γ L x)) := by
  refine m_start (by decide) (Nat.le_of_ble_eq_true rfl) ?_
  intro p e s m args below meth c A ls X hr hlk hnm hw hS hl
  have hx := X.1.1
  have hb := X.1.2.1
  have hl : lv_has ls 5 [(0, .ref (L (nm 0 10))), (1, .int k)] := hl
  have hk : kf 0 10 10 x x := kf.rf
  have KL : ∀ (n : Nat) (j w : Int32) (y : CS) (H : Heap) (locs : List Loc) (ls : Array Slot), n ≤ 8 → dn n j → CInv y → kf 0 10 10 x y → mW Γ.1 vwCl A L (cM Γ L (y)) H → va_S A s.heap H locs → lv_has ls 5 [(4, .int j), (3, .int w), (0, .ref (L (nm 0 10))), (1, .int k)] → W p l e { frames := 3, cells := 0, slots := 0, locals := 69 } s m args below meth c H locs 0 0 (MQ below (mQv Γ (mKf 0 10 10 Γ L x) A) args s 0 0 A) (F0 m 88 ls []) := by
    intro n
    induction n with
    | zero =>
      intro j w y H locs ls f0 f1 f2 f3 hw hS hl
      have hI := f2
      have hk := f3
      obtain rfl : j = -1 := dn_zero f1
      refine lv_iload hx hb dX4_arises_88 (lv_at hl 0 rfl) ?_
      refine lv_if_lt (tgt := 122) hx hb dX4_arises_90 (by decide) (fun c_1 => ?_) (fun c_1 => ?_)
      · skip
        refine lv_aload_n hx hb dX4_arises_122 rfl (lv_at hl 2 rfl) ?_
        refine lv_iload_n hx hb dX4_arises_123 rfl (lv_at hl 3 rfl) ?_
        refine lv_iload_n hx hb dX4_arises_124 rfl (lv_at hl 1 rfl) ?_
        refine m_callv (m_runV (i := nm 0 10) (ci := 3) (As := [.int k, .int w]) (rest := []) X (k_X4_end Γ l L y k w hI) v_X4_end ml_X4_100 hw hS rfl rfl rfl rfl hl.1 ⟨Nat.le_of_ble_eq_true rfl, Nat.le_of_ble_eq_true rfl⟩ (Nat.le_of_ble_eq_true rfl) ⟨Nat.le_of_ble_eq_true rfl, Nat.le_of_ble_eq_true rfl⟩ dX4_arises_125) hS (fun L1 M1 H locs hp_2 hw hS => ?_)
        obtain ⟨e1, c_2, e2, hI_2, hk_2⟩ := hp_2
        rw [e1, e2] at hw; clear e1 e2
        have hk := hk.tr hk_2.1
        have hI := hI_2
        exact m_vret X hr hlk hw hS (Nat.le_of_ble_eq_true rfl) (Nat.le_of_ble_eq_true rfl) ⟨rfl, _, rfl, hI, hk⟩ dX4_arises_128
      · skip
        exact absurd c_1 (by decide)
    | succ n ih =>
      intro j w y H locs ls f0 f1 f2 f3 hw hS hl
      have hI := f2
      have hk := f3
      have f1 : j = nI n := dn_succ f1
      refine lv_iload hx hb dX4_arises_88 (lv_at hl 0 rfl) ?_
      refine lv_if_lt (tgt := 122) hx hb dX4_arises_90 (by decide) (fun c_3 => ?_) (fun c_3 => ?_)
      · skip
        have c_3n : n < 0 := nltT (a := n) (b := 0) f1 rfl (by omega) (by omega) c_3
        have c_3m : ¬ 0 ≤ n := by omega
        refine lv_aload_n hx hb dX4_arises_122 rfl (lv_at hl 2 rfl) ?_
        refine lv_iload_n hx hb dX4_arises_123 rfl (lv_at hl 3 rfl) ?_
        refine lv_iload_n hx hb dX4_arises_124 rfl (lv_at hl 1 rfl) ?_
        refine m_callv (m_runV (i := nm 0 10) (ci := 3) (As := [.int k, .int w]) (rest := []) X (k_X4_end Γ l L y k w hI) v_X4_end ml_X4_100 hw hS rfl rfl rfl rfl hl.1 ⟨Nat.le_of_ble_eq_true rfl, Nat.le_of_ble_eq_true rfl⟩ (Nat.le_of_ble_eq_true rfl) ⟨Nat.le_of_ble_eq_true rfl, Nat.le_of_ble_eq_true rfl⟩ dX4_arises_125) hS (fun L1 M1 H locs hp_4 hw hS => ?_)
        obtain ⟨e1, c_4, e2, hI_4, hk_4⟩ := hp_4
        rw [e1, e2] at hw; clear e1 e2
        have hk := hk.tr hk_4.1
        have hI := hI_4
        exact m_vret X hr hlk hw hS (Nat.le_of_ble_eq_true rfl) (Nat.le_of_ble_eq_true rfl) ⟨rfl, _, rfl, hI, hk⟩ dX4_arises_128
      · skip
        have c_3n : ¬ n < 0 := nltF (a := n) (b := 0) f1 rfl (by omega) (by omega) c_3
        have c_3m : 0 ≤ n := by omega
        refine lv_aload_n hx hb dX4_arises_93 rfl (lv_at hl 2 rfl) ?_
        refine lv_iload hx hb dX4_arises_94 (lv_at hl 0 rfl) ?_
        refine lv_topi (fun v_5 ev_5 => ?_)
        obtain rfl : v_5 = nI (n) := ev_5.trans f1
        clear ev_5
        refine s_put (a := 0) (b := 10) (v := nI (n)) (ci := 3) (ty := tyX4 6) X hw hS 6 rfl rfl rfl gX4 tyX4 tyX4_ok nmX4 (by decide) fl_X4_50 rfl rfl (tyX4_ok 6 (by decide)) rfl rfl (show 6 < 14 by decide) dX4_arises_96 (fun H locs hw hS => ?_)
        have hI := hI.lvl (v := nI (n)) ⟨n, by omega, rfl⟩
        have hk := hk.putS (a := 0) (b := 10) (k := 6) (v := nI (n)) (by omega)
        refine lv_aload_n hx hb dX4_arises_99 rfl (lv_at hl 2 rfl) ?_
        refine lv_aload_n hx hb dX4_arises_100 rfl (lv_at hl 2 rfl) ?_
        refine s_get (a := 0) (b := 10) (ci := 3) X hw rfl rfl gX4 1 (by decide) fl_X4_22 rfl rfl dX4_arises_101 ?_
        refine lv_iload hx hb dX4_arises_104 (lv_at hl 0 rfl) ?_
        rcases hq_6 : cQ (tS y 0 10 6 (nI (n))) n with _ | mq_6
        · skip
          refine s_aaldN (a := 0) (b := 16) (n := 8) (k := n) (t := 3) X hw rfl rfl f1 (by omega) (by decide) (by show Option.map _ (cQ (tS y 0 10 6 (nI (n))) n) = none; rw [hq_6]; rfl) dX4_arises_106 ?_
          refine lv_iload_n hx hb dX4_arises_107 rfl (lv_at hl 3 rfl) ?_
          refine lv_iload_n hx hb dX4_arises_108 rfl (lv_at hl 1 rfl) ?_
          refine m_calli (m_runV (i := nm 0 10) (ci := 3) (As := [.null, .int k, .int w]) (rest := []) X (k_X4_catchesN Γ l L (tS y 0 10 6 (nI (n))) k w hI) v_X4_catches ml_X4_104 hw hS rfl rfl rfl rfl hl.1 ⟨Nat.le_of_ble_eq_true rfl, Nat.le_of_ble_eq_true rfl⟩ (Nat.le_of_ble_eq_true rfl) ⟨Nat.le_of_ble_eq_true rfl, Nat.le_of_ble_eq_true rfl⟩ dX4_arises_109) hS (fun r_7 L1 M1 H locs hp_7 hw hS => ?_)
          obtain ⟨⟨t_7, rfl⟩, e1, c_7, e2, hI_7, hk_7⟩ := hp_7
          rw [e1, e2] at hw; clear e1 e2
          have hk := hk.tr hk_7.1
          have hI := hI_7
          refine lv_if_eq (tgt := 116) hx hb dX4_arises_112 (by decide) (fun c_8 => ?_) (fun c_8 => ?_)
          · skip
            have c_8 := bI_f c_8
            refine lv_iinc (v := j + (-1)) (lv' := [(4, .int (j + (-1))), (3, .int w), (0, .ref (L (nm 0 10))), (1, .int k)]) hx hb dX4_arises_116 hl (k := 0) rfl rfl (by decide) rfl (fun ls hl => ?_)
            refine lv_goto (tgt := 88) hx hb dX4_arises_119 (by decide) ?_
            exact ih _ _ _ _ _ ls (by omega) (dn_step f1) hI hk hw hS (lv_sub hl [0, 1, 2, 3] rfl)
          · skip
            have c_8 := bI_t c_8
            exact m_vret X hr hlk hw hS (Nat.le_of_ble_eq_true rfl) (Nat.le_of_ble_eq_true rfl) ⟨rfl, _, rfl, hI, hk⟩ dX4_arises_115
        · skip
          refine s_aaldS (a := 0) (b := 16) (n := 8) (k := n) (t := 3) (q := L (nm (mq_6 + 2) 0)) X hw rfl rfl f1 (by omega) (by decide) (by show Option.map _ (cQ (tS y 0 10 6 (nI (n))) n) = some _; rw [hq_6]; rfl) dX4_arises_106 ?_
          have hmq_6 : mq_6 < cN x := hk.bk (hI.2.2.2.2.2.2 _ _ hq_6)
          refine lv_iload_n hx hb dX4_arises_107 rfl (lv_at hl 3 rfl) ?_
          refine lv_iload_n hx hb dX4_arises_108 rfl (lv_at hl 1 rfl) ?_
          refine m_calli (m_runV (i := nm 0 10) (ci := 3) (As := [.ref (L (nm (mq_6 + 2) 0)), .int k, .int w]) (rest := []) X (k_X4_catches Γ l L (tS y 0 10 6 (nI (n))) mq_6 k w hI (hk.lt hmq_6)) v_X4_catches ml_X4_104 hw hS rfl rfl rfl rfl hl.1 ⟨Nat.le_of_ble_eq_true rfl, Nat.le_of_ble_eq_true rfl⟩ (Nat.le_of_ble_eq_true rfl) ⟨Nat.le_of_ble_eq_true rfl, Nat.le_of_ble_eq_true rfl⟩ dX4_arises_109) hS (fun r_9 L1 M1 H locs hp_9 hw hS => ?_)
          obtain ⟨⟨t_9, rfl⟩, e1, c_9, e2, hI_9, hk_9⟩ := hp_9
          rw [e1, e2] at hw; clear e1 e2
          have hk := hk.tr hk_9.1
          have hI := hI_9
          refine lv_if_eq (tgt := 116) hx hb dX4_arises_112 (by decide) (fun c_10 => ?_) (fun c_10 => ?_)
          · skip
            have c_10 := bI_f c_10
            refine lv_iinc (v := j + (-1)) (lv' := [(4, .int (j + (-1))), (3, .int w), (0, .ref (L (nm 0 10))), (1, .int k)]) hx hb dX4_arises_116 hl (k := 0) rfl rfl (by decide) rfl (fun ls hl => ?_)
            refine lv_goto (tgt := 88) hx hb dX4_arises_119 (by decide) ?_
            exact ih _ _ _ _ _ ls (by omega) (dn_step f1) hI hk hw hS (lv_sub hl [0, 1, 2, 3] rfl)
          · skip
            have c_10 := bI_t c_10
            exact m_vret X hr hlk hw hS (Nat.le_of_ble_eq_true rfl) (Nat.le_of_ble_eq_true rfl) ⟨rfl, _, rfl, hI, hk⟩ dX4_arises_115
  have K65 : ∀ (y : CS) (w : Int32) (H : Heap) (locs : List Loc) (ls : Array Slot), CInv y → kf 0 10 10 x y → mW Γ.1 vwCl A L (cM Γ L y) H → va_S A s.heap H locs → lv_has ls 5 [(3, .int w), (0, .ref (L (nm 0 10))), (1, .int k)] → W p l e { frames := 3, cells := 0, slots := 0, locals := 69 } s m args below meth c H locs 0 0 (MQ below (mQv Γ (mKf 0 10 10 Γ L x) A) args s 0 0 A) (F0 m 65 ls []) := by
    intro y w H locs ls hI hk hw hS hl
    refine lv_aload_n hx hb dX4_arises_65 rfl (lv_at hl 1 rfl) ?_
    refine s_get (a := 0) (b := 10) (ci := 3) X hw rfl rfl gX4 11 (by decide) fl_X4_69 rfl rfl dX4_arises_66 ?_
    refine lv_bipush (v := 13) hx hb dX4_arises_69 (by decide) ?_
    refine lv_icmp_lt (tgt := 82) hx hb dX4_arises_71 (by decide) (fun c_11 => ?_) (fun c_11 => ?_)
    · skip
      refine lv_aload_n hx hb dX4_arises_82 rfl (lv_at hl 1 rfl) ?_
      refine s_get (a := 0) (b := 10) (ci := 3) X hw rfl rfl gX4 6 (by decide) fl_X4_50 rfl rfl dX4_arises_83 ?_
      obtain ⟨z_12, hz_12, ez_12⟩ := hI.2.2.2.1
      refine lv_istore (lv' := [(4, .int (y.1 0 10 6)), (3, .int w), (0, .ref (L (nm 0 10))), (1, .int k)]) hx hb dX4_arises_86 hl (by decide) rfl (fun ls hl => ?_)
      exact KL (z_12 + 1) _ _ _ _ _ ls (by omega) (Or.inr ⟨z_12, rfl, ez_12⟩) hI hk hw hS (lv_sub hl [0, 1, 2, 3] rfl)
    · skip
      refine lv_aload_n hx hb dX4_arises_74 rfl (lv_at hl 1 rfl) ?_
      refine lv_bipush (v := 10) hx hb dX4_arises_75 (by decide) ?_
      refine lv_iload_n hx hb dX4_arises_77 rfl (lv_at hl 0 rfl) ?_
      refine m_callv (m_runV (i := nm 0 10) (ci := 3) (As := [.int 10, .int w]) (rest := []) X (k_X4_end Γ l L y 10 w hI) v_X4_end ml_X4_100 hw hS rfl rfl rfl rfl hl.1 ⟨Nat.le_of_ble_eq_true rfl, Nat.le_of_ble_eq_true rfl⟩ (Nat.le_of_ble_eq_true rfl) ⟨Nat.le_of_ble_eq_true rfl, Nat.le_of_ble_eq_true rfl⟩ dX4_arises_78) hS (fun L1 M1 H locs hp_13 hw hS => ?_)
      obtain ⟨e1, c_13, e2, hI_13, hk_13⟩ := hp_13
      rw [e1, e2] at hw; clear e1 e2
      have hk := hk.tr hk_13.1
      have hI := hI_13
      exact m_vret X hr hlk hw hS (Nat.le_of_ble_eq_true rfl) (Nat.le_of_ble_eq_true rfl) ⟨rfl, _, rfl, hI, hk⟩ dX4_arises_81
  refine lv_aload_n hx hb dX4_arises_0 rfl (lv_at hl 0 rfl) ?_
  refine lv_dup hx hb dX4_arises_1 rfl ?_
  refine s_get (a := 0) (b := 10) (ci := 3) X hw rfl rfl gX4 11 (by decide) fl_X4_69 rfl rfl dX4_arises_2 ?_
  refine lv_iconst (v := 1) hx hb dX4_arises_5 (by decide) ?_
  refine lv_iadd hx hb dX4_arises_6 ?_
  refine s_put (a := 0) (b := 10) (v := (x.1 0 10 11) + 1) (ci := 3) (ty := tyX4 11) X hw hS 11 rfl rfl rfl gX4 tyX4 tyX4_ok nmX4 (by decide) fl_X4_69 rfl rfl (tyX4_ok 11 (by decide)) rfl rfl (show 11 < 14 by decide) dX4_arises_7 (fun H locs hw hS => ?_)
  have hI := hI.free (b := 10) (k := 11) (v := (x.1 0 10 11) + 1) (by decide)
  have hk := hk.putS (a := 0) (b := 10) (k := 11) (v := (x.1 0 10 11) + 1) (by omega)
  refine lv_aload_n hx hb dX4_arises_10 rfl (lv_at hl 0 rfl) ?_
  refine s_get (a := 0) (b := 10) (ci := 3) X hw rfl rfl gX4 1 (by decide) fl_X4_22 rfl rfl dX4_arises_11 ?_
  refine lv_aload_n hx hb dX4_arises_14 rfl (lv_at hl 0 rfl) ?_
  refine s_get (a := 0) (b := 10) (ci := 3) X hw rfl rfl gX4 6 (by decide) fl_X4_50 rfl rfl dX4_arises_15 ?_
  obtain ⟨z_14, hz_14, ez_14⟩ := hI.2.2.2.1
  rcases hq_15 : cQ (tS x 0 10 11 ((x.1 0 10 11) + 1)) z_14 with _ | mq_15
  · skip
    refine s_aaldN (a := 0) (b := 16) (n := 8) (k := z_14) (t := 3) X hw rfl rfl ez_14 (by omega) (by decide) (by show Option.map _ (cQ (tS x 0 10 11 ((x.1 0 10 11) + 1)) z_14) = none; rw [hq_15]; rfl) dX4_arises_18 ?_
    refine lv_astore_nN (lv' := [(2, .null), (0, .ref (L (nm 0 10))), (1, .int k)]) hx hb dX4_arises_19 rfl hl (by decide) rfl (fun ls hl => ?_)
    refine lv_aload_n hx hb dX4_arises_20 rfl (lv_at hl 1 rfl) ?_
    refine lv_aload_nN hx hb dX4_arises_21 rfl (lv_at hl 0 rfl) ?_
    refine lv_ifnonnullN hx hb dX4_arises_22 ?_
    refine lv_ldc (v := (-99999999)) hx hb X.1.2.2.2.1 (X.1.2.2.2.2 _ ki_X4_42) dX4_arises_25 ?_
    refine lv_goto (tgt := 34) hx hb dX4_arises_27 (by decide) ?_
    refine s_put (a := 0) (b := 10) (v := (-99999999)) (ci := 3) (ty := tyX4 12) X hw hS 12 rfl rfl rfl gX4 tyX4 tyX4_ok nmX4 (by decide) fl_X4_43 rfl rfl (tyX4_ok 12 (by decide)) rfl rfl (show 12 < 14 by decide) dX4_arises_34 (fun H locs hw hS => ?_)
    have ez_16 : (tS (tS x 0 10 11 ((x.1 0 10 11) + 1)) 0 10 12 (-99999999)).1 0 10 6 = nI z_14 := (tS_rd (by omega)).trans ez_14
    have hI := hI.free (b := 10) (k := 12) (v := (-99999999)) (by decide)
    have hk := hk.putS (a := 0) (b := 10) (k := 12) (v := (-99999999)) (by omega)
    refine lv_aload_n hx hb dX4_arises_37 rfl (lv_at hl 1 rfl) ?_
    refine lv_aload_n hx hb dX4_arises_38 rfl (lv_at hl 1 rfl) ?_
    refine s_get (a := 0) (b := 10) (ci := 3) X hw rfl rfl gX4 2 (by decide) fl_X4_26 rfl rfl dX4_arises_39 ?_
    refine lv_aload_n hx hb dX4_arises_42 rfl (lv_at hl 1 rfl) ?_
    refine s_get (a := 0) (b := 10) (ci := 3) X hw rfl rfl gX4 6 (by decide) fl_X4_50 rfl rfl dX4_arises_43 ?_
    refine s_iald (n := 8) (k := z_14) X hw rfl ez_16 (by omega) (by decide) dX4_arises_46 ?_
    refine s_put (a := 0) (b := 10) (v := (tS (tS x 0 10 11 ((x.1 0 10 11) + 1)) 0 10 12 (-99999999)).2.1 0 17 z_14) (ci := 3) (ty := tyX4 13) X hw hS 13 rfl rfl rfl gX4 tyX4 tyX4_ok nmX4 (by decide) fl_X4_47 rfl rfl (tyX4_ok 13 (by decide)) rfl rfl (show 13 < 14 by decide) dX4_arises_47 (fun H locs hw hS => ?_)
    have ez_17 : (tS (tS (tS x 0 10 11 ((x.1 0 10 11) + 1)) 0 10 12 (-99999999)) 0 10 13 ((tS (tS x 0 10 11 ((x.1 0 10 11) + 1)) 0 10 12 (-99999999)).2.1 0 17 z_14)).1 0 10 6 = nI z_14 := (tS_rd (by omega)).trans ez_16
    have hI := hI.free (b := 10) (k := 13) (v := (tS (tS x 0 10 11 ((x.1 0 10 11) + 1)) 0 10 12 (-99999999)).2.1 0 17 z_14) (by decide)
    have hk := hk.putS (a := 0) (b := 10) (k := 13) (v := (tS (tS x 0 10 11 ((x.1 0 10 11) + 1)) 0 10 12 (-99999999)).2.1 0 17 z_14) (by omega)
    refine lv_iload_n hx hb dX4_arises_50 rfl (lv_at hl 2 rfl) ?_
    refine lv_bipush (v := 7) hx hb dX4_arises_51 (by decide) ?_
    refine lv_icmp_ne (tgt := 63) hx hb dX4_arises_53 (by decide) (fun c_18 => ?_) (fun c_18 => ?_)
    · skip
      refine lv_iload_n hx hb dX4_arises_63 rfl (lv_at hl 2 rfl) ?_
      refine lv_istore_n (lv' := [(3, .int k), (2, .null), (0, .ref (L (nm 0 10))), (1, .int k)]) hx hb dX4_arises_64 rfl hl (by decide) rfl (fun ls hl => ?_)
      exact K65 _ _ _ _ ls hI hk hw hS (lv_sub hl [0, 2, 3] rfl)
    · skip
      refine lv_aload_n hx hb dX4_arises_56 rfl (lv_at hl 1 rfl) ?_
      refine s_get (a := 0) (b := 10) (ci := 3) X hw rfl rfl gX4 8 (by decide) fl_X4_97 rfl rfl dX4_arises_57 ?_
      refine lv_goto (tgt := 64) hx hb dX4_arises_60 (by decide) ?_
      refine lv_istore_n (lv' := [(3, .int ((tS (tS (tS x 0 10 11 ((x.1 0 10 11) + 1)) 0 10 12 (-99999999)) 0 10 13 ((tS (tS x 0 10 11 ((x.1 0 10 11) + 1)) 0 10 12 (-99999999)).2.1 0 17 z_14)).1 0 10 8)), (2, .null), (0, .ref (L (nm 0 10))), (1, .int k)]) hx hb dX4_arises_64 rfl hl (by decide) rfl (fun ls hl => ?_)
      exact K65 _ _ _ _ ls hI hk hw hS (lv_sub hl [0, 2, 3] rfl)
  · skip
    refine s_aaldS (a := 0) (b := 16) (n := 8) (k := z_14) (t := 3) (q := L (nm (mq_15 + 2) 0)) X hw rfl rfl ez_14 (by omega) (by decide) (by show Option.map _ (cQ (tS x 0 10 11 ((x.1 0 10 11) + 1)) z_14) = some _; rw [hq_15]; rfl) dX4_arises_18 ?_
    have hmq_15 : mq_15 < cN x := hk.bk (hI.2.2.2.2.2.2 _ _ hq_15)
    refine lv_astore_n (lv' := [(2, .ref (L (nm (mq_15 + 2) 0))), (0, .ref (L (nm 0 10))), (1, .int k)]) hx hb dX4_arises_19 rfl hl (by decide) rfl (fun ls hl => ?_)
    refine lv_aload_n hx hb dX4_arises_20 rfl (lv_at hl 1 rfl) ?_
    refine lv_aload_n hx hb dX4_arises_21 rfl (lv_at hl 0 rfl) ?_
    refine lv_ifnonnull (tgt := 30) hx hb dX4_arises_22 (by decide) ?_
    refine lv_aload_n hx hb dX4_arises_30 rfl (lv_at hl 0 rfl) ?_
    refine s_get (a := mq_15 + 2) (b := 0) (ci := 0) X hw (c_cell (hk.lt hmq_15) 0 _ _ _) rfl gX0 0 (by decide) fl_X4_94 rfl rfl dX4_arises_31 ?_
    refine s_put (a := 0) (b := 10) (v := nI mq_15) (ci := 3) (ty := tyX4 12) X hw hS 12 rfl rfl rfl gX4 tyX4 tyX4_ok nmX4 (by decide) fl_X4_43 rfl rfl (tyX4_ok 12 (by decide)) rfl rfl (show 12 < 14 by decide) dX4_arises_34 (fun H locs hw hS => ?_)
    have ez_19 : (tS (tS x 0 10 11 ((x.1 0 10 11) + 1)) 0 10 12 (nI mq_15)).1 0 10 6 = nI z_14 := (tS_rd (by omega)).trans ez_14
    have hI := hI.free (b := 10) (k := 12) (v := nI mq_15) (by decide)
    have hk := hk.putS (a := 0) (b := 10) (k := 12) (v := nI mq_15) (by omega)
    refine lv_aload_n hx hb dX4_arises_37 rfl (lv_at hl 1 rfl) ?_
    refine lv_aload_n hx hb dX4_arises_38 rfl (lv_at hl 1 rfl) ?_
    refine s_get (a := 0) (b := 10) (ci := 3) X hw rfl rfl gX4 2 (by decide) fl_X4_26 rfl rfl dX4_arises_39 ?_
    refine lv_aload_n hx hb dX4_arises_42 rfl (lv_at hl 1 rfl) ?_
    refine s_get (a := 0) (b := 10) (ci := 3) X hw rfl rfl gX4 6 (by decide) fl_X4_50 rfl rfl dX4_arises_43 ?_
    refine s_iald (n := 8) (k := z_14) X hw rfl ez_19 (by omega) (by decide) dX4_arises_46 ?_
    refine s_put (a := 0) (b := 10) (v := (tS (tS x 0 10 11 ((x.1 0 10 11) + 1)) 0 10 12 (nI mq_15)).2.1 0 17 z_14) (ci := 3) (ty := tyX4 13) X hw hS 13 rfl rfl rfl gX4 tyX4 tyX4_ok nmX4 (by decide) fl_X4_47 rfl rfl (tyX4_ok 13 (by decide)) rfl rfl (show 13 < 14 by decide) dX4_arises_47 (fun H locs hw hS => ?_)
    have ez_20 : (tS (tS (tS x 0 10 11 ((x.1 0 10 11) + 1)) 0 10 12 (nI mq_15)) 0 10 13 ((tS (tS x 0 10 11 ((x.1 0 10 11) + 1)) 0 10 12 (nI mq_15)).2.1 0 17 z_14)).1 0 10 6 = nI z_14 := (tS_rd (by omega)).trans ez_19
    have hI := hI.free (b := 10) (k := 13) (v := (tS (tS x 0 10 11 ((x.1 0 10 11) + 1)) 0 10 12 (nI mq_15)).2.1 0 17 z_14) (by decide)
    have hk := hk.putS (a := 0) (b := 10) (k := 13) (v := (tS (tS x 0 10 11 ((x.1 0 10 11) + 1)) 0 10 12 (nI mq_15)).2.1 0 17 z_14) (by omega)
    refine lv_iload_n hx hb dX4_arises_50 rfl (lv_at hl 2 rfl) ?_
    refine lv_bipush (v := 7) hx hb dX4_arises_51 (by decide) ?_
    refine lv_icmp_ne (tgt := 63) hx hb dX4_arises_53 (by decide) (fun c_21 => ?_) (fun c_21 => ?_)
    · skip
      refine lv_iload_n hx hb dX4_arises_63 rfl (lv_at hl 2 rfl) ?_
      refine lv_istore_n (lv' := [(3, .int k), (2, .ref (L (nm (mq_15 + 2) 0))), (0, .ref (L (nm 0 10))), (1, .int k)]) hx hb dX4_arises_64 rfl hl (by decide) rfl (fun ls hl => ?_)
      exact K65 _ _ _ _ ls hI hk hw hS (lv_sub hl [0, 2, 3] rfl)
    · skip
      refine lv_aload_n hx hb dX4_arises_56 rfl (lv_at hl 1 rfl) ?_
      refine s_get (a := 0) (b := 10) (ci := 3) X hw rfl rfl gX4 8 (by decide) fl_X4_97 rfl rfl dX4_arises_57 ?_
      refine lv_goto (tgt := 64) hx hb dX4_arises_60 (by decide) ?_
      refine lv_istore_n (lv' := [(3, .int ((tS (tS (tS x 0 10 11 ((x.1 0 10 11) + 1)) 0 10 12 (nI mq_15)) 0 10 13 ((tS (tS x 0 10 11 ((x.1 0 10 11) + 1)) 0 10 12 (nI mq_15)).2.1 0 17 z_14)).1 0 10 8)), (2, .ref (L (nm (mq_15 + 2) 0))), (0, .ref (L (nm 0 10))), (1, .int k)]) hx hb dX4_arises_64 rfl hl (by decide) rfl (fun ls hl => ?_)
      exact K65 _ _ _ _ ls hI hk hw hS (lv_sub hl [0, 2, 3] rfl)
theorem v_X4_doNext : mVm yX4_doNext cX4_doNext 5 none 1 := ⟨cd_X4_doNext, im_X4_doNext, se_X4_doNext, ini_X4, by decide, by decide, by decide +kernel⟩
set_option maxHeartbeats 4000000 in
set_option maxRecDepth 100000 in
theorem k_X4_doNext (Γ : mG) (l : Launch) (L : mI → Nat) (x : CS)  (hI : CInv x) : mMet Γ l yX4_doNext cX4_doNext 5 none { frames := 5, cells := 0, slots := 0, locals := 120 } [.ref (L (nm 0 10)), .ref (L (nm 0 1))] L (cM Γ L x) (mQv Γ (mKf 0 10 10 Γ L x)) := by
  refine m_start (by decide) (Nat.le_of_ble_eq_true rfl) ?_
  intro p e s m args below meth c A ls X hr hlk hnm hw hS hl
  have hx := X.1.1
  have hb := X.1.2.1
  have hl : lv_has ls 5 [(0, .ref (L (nm 0 10))), (1, .ref (L (nm 0 1)))] := hl
  have hk : kf 0 10 10 x x := kf.rf
  refine lv_aload_n hx hb dX4_doNext_0 rfl (lv_at hl 0 rfl) ?_
  refine s_get (a := 0) (b := 10) (ci := 3) X hw rfl rfl gX4 1 (by decide) fl_X4_22 rfl rfl dX4_doNext_1 ?_
  refine lv_aload_n hx hb dX4_doNext_4 rfl (lv_at hl 0 rfl) ?_
  refine s_get (a := 0) (b := 10) (ci := 3) X hw rfl rfl gX4 6 (by decide) fl_X4_50 rfl rfl dX4_doNext_5 ?_
  obtain ⟨z_1, hz_1, ez_1⟩ := hI.2.2.2.1
  rcases hq_2 : cQ x z_1 with _ | mq_2
  · skip
    refine s_aaldN (a := 0) (b := 16) (n := 8) (k := z_1) (t := 3) X hw rfl rfl ez_1 (by omega) (by decide) (by show Option.map _ (cQ x z_1) = none; rw [hq_2]; rfl) dX4_doNext_8 ?_
    refine lv_astore_nN (lv' := [(2, .null), (0, .ref (L (nm 0 10))), (1, .ref (L (nm 0 1)))]) hx hb dX4_doNext_9 rfl hl (by decide) rfl (fun ls hl => ?_)
    refine lv_aload_n hx hb dX4_doNext_10 rfl (lv_at hl 1 rfl) ?_
    refine s_get (a := 0) (b := 10) (ci := 3) X hw rfl rfl gX4 2 (by decide) fl_X4_26 rfl rfl dX4_doNext_11 ?_
    refine lv_aload_n hx hb dX4_doNext_14 rfl (lv_at hl 1 rfl) ?_
    refine s_get (a := 0) (b := 10) (ci := 3) X hw rfl rfl gX4 6 (by decide) fl_X4_50 rfl rfl dX4_doNext_15 ?_
    refine s_iald (n := 8) (k := z_1) X hw rfl ez_1 (by omega) (by decide) dX4_doNext_18 ?_
    refine lv_istore_n (lv' := [(3, .int (x.2.1 0 17 z_1)), (2, .null), (0, .ref (L (nm 0 10))), (1, .ref (L (nm 0 1)))]) hx hb dX4_doNext_19 rfl hl (by decide) rfl (fun ls hl => ?_)
    refine lv_aload_nN hx hb dX4_doNext_20 rfl (lv_at hl 1 rfl) ?_
    refine lv_ifnullN (tgt := 33) hx hb dX4_doNext_21 (by decide) ?_
    exact m_vret X hr hlk hw hS (Nat.le_of_ble_eq_true rfl) (Nat.le_of_ble_eq_true rfl) ⟨rfl, _, rfl, hI, hk⟩ dX4_doNext_33
  · skip
    refine s_aaldS (a := 0) (b := 16) (n := 8) (k := z_1) (t := 3) (q := L (nm (mq_2 + 2) 0)) X hw rfl rfl ez_1 (by omega) (by decide) (by show Option.map _ (cQ x z_1) = some _; rw [hq_2]; rfl) dX4_doNext_8 ?_
    have hmq_2 : mq_2 < cN x := hk.bk (hI.2.2.2.2.2.2 _ _ hq_2)
    refine lv_astore_n (lv' := [(2, .ref (L (nm (mq_2 + 2) 0))), (0, .ref (L (nm 0 10))), (1, .ref (L (nm 0 1)))]) hx hb dX4_doNext_9 rfl hl (by decide) rfl (fun ls hl => ?_)
    refine lv_aload_n hx hb dX4_doNext_10 rfl (lv_at hl 1 rfl) ?_
    refine s_get (a := 0) (b := 10) (ci := 3) X hw rfl rfl gX4 2 (by decide) fl_X4_26 rfl rfl dX4_doNext_11 ?_
    refine lv_aload_n hx hb dX4_doNext_14 rfl (lv_at hl 1 rfl) ?_
    refine s_get (a := 0) (b := 10) (ci := 3) X hw rfl rfl gX4 6 (by decide) fl_X4_50 rfl rfl dX4_doNext_15 ?_
    refine s_iald (n := 8) (k := z_1) X hw rfl ez_1 (by omega) (by decide) dX4_doNext_18 ?_
    refine lv_istore_n (lv' := [(3, .int (x.2.1 0 17 z_1)), (2, .ref (L (nm (mq_2 + 2) 0))), (0, .ref (L (nm 0 10))), (1, .ref (L (nm 0 1)))]) hx hb dX4_doNext_19 rfl hl (by decide) rfl (fun ls hl => ?_)
    refine lv_aload_n hx hb dX4_doNext_20 rfl (lv_at hl 1 rfl) ?_
    refine lv_ifnull hx hb dX4_doNext_21 ?_
    refine lv_aload_n hx hb dX4_doNext_24 rfl (lv_at hl 1 rfl) ?_
    refine lv_iload_n hx hb dX4_doNext_25 rfl (lv_at hl 0 rfl) ?_
    refine lv_i2l (v := (x.2.1 0 17 z_1).toInt64) hx hb dX4_doNext_26 rfl ?_
    refine m_calli (m_runV (i := nm (mq_2 + 2) 0) (ci := 0) (As := [.long ((x.2.1 0 17 z_1).toInt64)]) (rest := []) X (k_X0_hasInstruction Γ l L x mq_2 ((x.2.1 0 17 z_1).toInt64) (hk.lt hmq_2)) v_X0_hasInstruction ml_X4_76 hw hS (c_cell (hk.lt hmq_2) 0 _ _ _) rfl rfl rfl hl.1 ⟨Nat.le_of_ble_eq_true rfl, Nat.le_of_ble_eq_true rfl⟩ (Nat.le_of_ble_eq_true rfl) ⟨Nat.le_of_ble_eq_true rfl, Nat.le_of_ble_eq_true rfl⟩ dX4_doNext_27) hS (fun r_3 L1 M1 H locs hp_3 hw hS => ?_)
    obtain ⟨rfl, e1, e2⟩ := hp_3
    rw [e1, e2] at hw; clear e1 e2
    refine lv_if_ne (tgt := 34) hx hb dX4_doNext_30 (by decide) (fun c_4 => ?_) (fun c_4 => ?_)
    · skip
      have c_4 := bI_t c_4
      obtain ⟨kn, hkn, ek⟩ := hasI_nat hI (hk.lt hmq_2) c_4
      refine lv_aload_n hx hb dX4_doNext_34 rfl (lv_at hl 2 rfl) ?_
      refine lv_aload_n hx hb dX4_doNext_35 rfl (lv_at hl 3 rfl) ?_
      refine lv_aload_n hx hb dX4_doNext_36 rfl (lv_at hl 1 rfl) ?_
      refine s_get (a := mq_2 + 2) (b := 0) (ci := 0) X hw (c_cell (hk.lt hmq_2) 0 _ _ _) rfl gX0 2 (by decide) fl_X4_80 rfl rfl dX4_doNext_37 ?_
      refine lv_iload_n hx hb dX4_doNext_40 rfl (lv_at hl 0 rfl) ?_
      refine s_iald (n := 40) (k := kn) X hw (c_cell (hk.lt hmq_2) 1 _ _ _) ek (by omega) (by decide) dX4_doNext_41 ?_
      refine lv_aload_n hx hb dX4_doNext_42 rfl (lv_at hl 1 rfl) ?_
      refine s_get (a := mq_2 + 2) (b := 0) (ci := 0) X hw (c_cell (hk.lt hmq_2) 0 _ _ _) rfl gX0 3 (by decide) fl_X4_83 rfl rfl dX4_doNext_43 ?_
      refine lv_iload_n hx hb dX4_doNext_46 rfl (lv_at hl 0 rfl) ?_
      refine s_lald (n := 40) (k := kn) X hw (c_cell (hk.lt hmq_2) 2 _ _ _) ek (by omega) (by decide) dX4_doNext_47 ?_
      refine m_calli (m_runV (i := nm 0 10) (ci := 3) (As := [.ref (L (nm 0 1)), .int (x.2.1 (mq_2 + 2) 1 kn), .long (x.2.2.1 (mq_2 + 2) 2 kn)]) (rest := []) X (k_X4_does Γ l L x (x.2.1 (mq_2 + 2) 1 kn) (x.2.2.1 (mq_2 + 2) 2 kn) hI) v_X4_does ml_X4_86 hw hS rfl rfl rfl rfl hl.1 ⟨Nat.le_of_ble_eq_true rfl, Nat.le_of_ble_eq_true rfl⟩ (Nat.le_of_ble_eq_true rfl) ⟨Nat.le_of_ble_eq_true rfl, Nat.le_of_ble_eq_true rfl⟩ dX4_doNext_48) hS (fun r_5 L1 M1 H locs hp_5 hw hS => ?_)
      obtain ⟨e1, c_5, e2, hI_5, hk_5⟩ := hp_5
      rw [e1, e2] at hw; clear e1 e2
      have hk := hk.tr hk_5
      have hI := hI_5
      refine lv_istore (lv' := [(4, .int r_5), (3, .int (x.2.1 0 17 z_1)), (2, .ref (L (nm (mq_2 + 2) 0))), (0, .ref (L (nm 0 10))), (1, .ref (L (nm 0 1)))]) hx hb dX4_doNext_51 hl (by decide) rfl (fun ls hl => ?_)
      refine lv_iload hx hb dX4_doNext_53 (lv_at hl 0 rfl) ?_
      refine lv_if_ne (tgt := 73) hx hb dX4_doNext_55 (by decide) (fun c_6 => ?_) (fun c_6 => ?_)
      · skip
        refine lv_iload hx hb dX4_doNext_73 (lv_at hl 0 rfl) ?_
        refine lv_iconst (v := (-1)) hx hb dX4_doNext_75 (by decide) ?_
        refine lv_icmp_eq (tgt := 85) hx hb dX4_doNext_76 (by decide) (fun c_7 => ?_) (fun c_7 => ?_)
        · skip
          exact m_vret X hr hlk hw hS (Nat.le_of_ble_eq_true rfl) (Nat.le_of_ble_eq_true rfl) ⟨rfl, _, rfl, hI, hk⟩ dX4_doNext_85
        · skip
          refine lv_aload_n hx hb dX4_doNext_79 rfl (lv_at hl 3 rfl) ?_
          refine lv_iload hx hb dX4_doNext_80 (lv_at hl 0 rfl) ?_
          refine m_callv (m_runV (i := nm 0 10) (ci := 3) (As := [.int r_5]) (rest := []) X (k_X4_arises Γ l L c_5 r_5 hI) v_X4_arises ml_X4_90 hw hS rfl rfl rfl rfl hl.1 ⟨Nat.le_of_ble_eq_true rfl, Nat.le_of_ble_eq_true rfl⟩ (Nat.le_of_ble_eq_true rfl) ⟨Nat.le_of_ble_eq_true rfl, Nat.le_of_ble_eq_true rfl⟩ dX4_doNext_82) hS (fun L1 M1 H locs hp_8 hw hS => ?_)
          obtain ⟨e1, c_8, e2, hI_8, hk_8⟩ := hp_8
          rw [e1, e2] at hw; clear e1 e2
          have hk := hk.tr hk_8
          have hI := hI_8
          exact m_vret X hr hlk hw hS (Nat.le_of_ble_eq_true rfl) (Nat.le_of_ble_eq_true rfl) ⟨rfl, _, rfl, hI, hk⟩ dX4_doNext_85
      · skip
        refine lv_aload_n hx hb dX4_doNext_58 rfl (lv_at hl 3 rfl) ?_
        refine s_get (a := 0) (b := 10) (ci := 3) X hw rfl rfl gX4 2 (by decide) fl_X4_26 rfl rfl dX4_doNext_59 ?_
        refine lv_aload_n hx hb dX4_doNext_62 rfl (lv_at hl 3 rfl) ?_
        refine s_get (a := 0) (b := 10) (ci := 3) X hw rfl rfl gX4 6 (by decide) fl_X4_50 rfl rfl dX4_doNext_63 ?_
        obtain ⟨z_9, hz_9, ez_9⟩ := hI.2.2.2.1
        refine lv_iload_n hx hb dX4_doNext_66 rfl (lv_at hl 1 rfl) ?_
        refine lv_iconst (v := 1) hx hb dX4_doNext_67 (by decide) ?_
        refine lv_iadd hx hb dX4_doNext_68 ?_
        refine s_iast (n := 8) (k := z_9) (v := (x.2.1 0 17 z_1) + 1) X hw hS (fun _ => rfl) ez_9 (by omega) (by decide) dX4_doNext_69 (fun H locs hw hS => ?_)
        have hI := hI.putV (a := 0) (b := 17) (j := z_9) (v := (x.2.1 0 17 z_1) + 1) (by omega)
        have hk := hk.putV (a := 0) (b := 17) (j := z_9) (v := (x.2.1 0 17 z_1) + 1) (by omega)
        refine lv_goto (tgt := 85) hx hb dX4_doNext_70 (by decide) ?_
        exact m_vret X hr hlk hw hS (Nat.le_of_ble_eq_true rfl) (Nat.le_of_ble_eq_true rfl) ⟨rfl, _, rfl, hI, hk⟩ dX4_doNext_85
    · skip
      have c_4 := bI_f c_4
      exact m_vret X hr hlk hw hS (Nat.le_of_ble_eq_true rfl) (Nat.le_of_ble_eq_true rfl) ⟨rfl, _, rfl, hI, hk⟩ dX4_doNext_33
theorem v_X4_prepare : mVm yX4_prepare cX4_prepare 2 none 1 := ⟨cd_X4_prepare, im_X4_prepare, se_X4_prepare, ini_X4, by decide, by decide, by decide +kernel⟩
set_option maxHeartbeats 4000000 in
set_option maxRecDepth 100000 in
theorem k_X4_prepare (Γ : mG) (l : Launch) (L : mI → Nat) (x : CS) (cm : Nat)  (hI : CInv x) (hm : cm < cN x) : mMet Γ l yX4_prepare cX4_prepare 2 none { frames := 1, cells := 0, slots := 0, locals := 21 } [.ref (L (nm 0 10)), .ref (L (nm (cm + 2) 0))] L (cM Γ L x) (mQv Γ (fun L1 M1 => L1 = L ∧ ∃ c1 : CS, M1 = cM Γ L c1 ∧ CInv c1 ∧ kp x c1 ∧ c1.1 0 10 10 = nI 0)) := by
  refine m_start (by decide) (Nat.le_of_ble_eq_true rfl) ?_
  intro p e s m args below meth c A ls X hr hlk hnm hw hS hl
  have hx := X.1.1
  have hb := X.1.2.1
  have hl : lv_has ls 2 [(0, .ref (L (nm 0 10))), (1, .ref (L (nm (cm + 2) 0)))] := hl
  have hk : kp x x := kp.rf
  refine lv_aload_n hx hb dX4_prepare_0 rfl (lv_at hl 0 rfl) ?_
  refine lv_iconst (v := 0) hx hb dX4_prepare_1 (by decide) ?_
  refine s_put (a := 0) (b := 10) (v := 0) (ci := 3) (ty := tyX4 6) X hw hS 6 rfl rfl rfl gX4 tyX4 tyX4_ok nmX4 (by decide) fl_X4_50 rfl rfl (tyX4_ok 6 (by decide)) rfl rfl (show 6 < 14 by decide) dX4_prepare_2 (fun H locs hw hS => ?_)
  have hI := hI.lvl (v := 0) ⟨0, by omega, rfl⟩
  have hk := hk.putS (a := 0) (b := 10) (k := 6) (v := 0) (by omega)
  refine lv_aload_n hx hb dX4_prepare_5 rfl (lv_at hl 0 rfl) ?_
  refine lv_aload_n hx hb dX4_prepare_6 rfl (lv_at hl 1 rfl) ?_
  refine m_callv (m_runV (i := nm 0 10) (ci := 3) (As := [.ref (L (nm (cm + 2) 0))]) (rest := []) X (k_X4_enter Γ l L (tS x 0 10 6 0) cm hI (hk.lt hm)) v_X4_enter ml_X4_53 hw hS rfl rfl rfl rfl hl.1 ⟨Nat.le_of_ble_eq_true rfl, Nat.le_of_ble_eq_true rfl⟩ (Nat.le_of_ble_eq_true rfl) ⟨Nat.le_of_ble_eq_true rfl, Nat.le_of_ble_eq_true rfl⟩ dX4_prepare_7) hS (fun L1 M1 H locs hp_1 hw hS => ?_)
  obtain ⟨e1, c_1, e2, hI_1, hk_1⟩ := hp_1
  rw [e1, e2] at hw; clear e1 e2
  have hk := hk.tr hk_1.1.1
  have hI := hI_1
  refine lv_aload_n hx hb dX4_prepare_10 rfl (lv_at hl 0 rfl) ?_
  refine s_get (a := 0) (b := 10) (ci := 3) X hw rfl rfl gX4 0 (by decide) fl_X4_14 rfl rfl dX4_prepare_11 ?_
  refine lv_iconst (v := 0) hx hb dX4_prepare_14 (by decide) ?_
  refine s_put (a := 0) (b := 11) (v := 0) (ci := 1) (ty := tyX1 4) X hw hS 4 rfl rfl rfl gX1 tyX1 tyX1_ok nmX1 (by decide) fl_X4_57 rfl rfl (tyX1_ok 4 (by decide)) rfl rfl (show 4 < 5 by decide) dX4_prepare_15 (fun H locs hw hS => ?_)
  have hI := hI.made (v := 0) ⟨0, by omega, rfl⟩
  have hk := hk.putS (a := 0) (b := 11) (k := 4) (v := 0) (by omega)
  refine lv_aload_n hx hb dX4_prepare_18 rfl (lv_at hl 0 rfl) ?_
  refine lv_iconst (v := (-1)) hx hb dX4_prepare_19 (by decide) ?_
  refine s_put (a := 0) (b := 10) (v := (-1)) (ci := 3) (ty := tyX4 7) X hw hS 7 rfl rfl rfl gX4 tyX4 tyX4_ok nmX4 (by decide) fl_X4_60 rfl rfl (tyX4_ok 7 (by decide)) rfl rfl (show 7 < 14 by decide) dX4_prepare_20 (fun H locs hw hS => ?_)
  have hI := hI.free (b := 10) (k := 7) (v := (-1)) (by decide)
  have hk := hk.putS (a := 0) (b := 10) (k := 7) (v := (-1)) (by omega)
  refine lv_aload_n hx hb dX4_prepare_23 rfl (lv_at hl 0 rfl) ?_
  refine lv_iconst (v := 0) hx hb dX4_prepare_24 (by decide) ?_
  refine s_put (a := 0) (b := 10) (v := 0) (ci := 3) (ty := tyX4 9) X hw hS 9 rfl rfl rfl gX4 tyX4 tyX4_ok nmX4 (by decide) fl_X4_63 rfl rfl (tyX4_ok 9 (by decide)) rfl rfl (show 9 < 14 by decide) dX4_prepare_25 (fun H locs hw hS => ?_)
  have hI := hI.free (b := 10) (k := 9) (v := 0) (by decide)
  have hk := hk.putS (a := 0) (b := 10) (k := 9) (v := 0) (by omega)
  refine lv_aload_n hx hb dX4_prepare_28 rfl (lv_at hl 0 rfl) ?_
  refine lv_iconst (v := 0) hx hb dX4_prepare_29 (by decide) ?_
  refine s_put (a := 0) (b := 10) (v := 0) (ci := 3) (ty := tyX4 10) X hw hS 10 rfl rfl rfl gX4 tyX4 tyX4_ok nmX4 (by decide) fl_X4_66 rfl rfl (tyX4_ok 10 (by decide)) rfl rfl (show 10 < 14 by decide) dX4_prepare_30 (fun H locs hw hS => ?_)
  have hI := hI.free (b := 10) (k := 10) (v := 0) (by decide)
  have hk := hk.putS (a := 0) (b := 10) (k := 10) (v := 0) (by omega)
  refine lv_aload_n hx hb dX4_prepare_33 rfl (lv_at hl 0 rfl) ?_
  refine lv_iconst (v := 0) hx hb dX4_prepare_34 (by decide) ?_
  refine s_put (a := 0) (b := 10) (v := 0) (ci := 3) (ty := tyX4 11) X hw hS 11 rfl rfl rfl gX4 tyX4 tyX4_ok nmX4 (by decide) fl_X4_69 rfl rfl (tyX4_ok 11 (by decide)) rfl rfl (show 11 < 14 by decide) dX4_prepare_35 (fun H locs hw hS => ?_)
  have hI := hI.free (b := 10) (k := 11) (v := 0) (by decide)
  have hk := hk.putS (a := 0) (b := 10) (k := 11) (v := 0) (by omega)
  refine lv_aload_n hx hb dX4_prepare_38 rfl (lv_at hl 0 rfl) ?_
  refine lv_ldc (v := (-99999999)) hx hb X.1.2.2.2.1 (X.1.2.2.2.2 _ ki_X4_42) dX4_prepare_39 ?_
  refine s_put (a := 0) (b := 10) (v := (-99999999)) (ci := 3) (ty := tyX4 12) X hw hS 12 rfl rfl rfl gX4 tyX4 tyX4_ok nmX4 (by decide) fl_X4_43 rfl rfl (tyX4_ok 12 (by decide)) rfl rfl (show 12 < 14 by decide) dX4_prepare_41 (fun H locs hw hS => ?_)
  have hI := hI.free (b := 10) (k := 12) (v := (-99999999)) (by decide)
  have hk := hk.putS (a := 0) (b := 10) (k := 12) (v := (-99999999)) (by omega)
  refine lv_aload_n hx hb dX4_prepare_44 rfl (lv_at hl 0 rfl) ?_
  refine lv_ldc (v := (-99999999)) hx hb X.1.2.2.2.1 (X.1.2.2.2.2 _ ki_X4_42) dX4_prepare_45 ?_
  refine s_put (a := 0) (b := 10) (v := (-99999999)) (ci := 3) (ty := tyX4 13) X hw hS 13 rfl rfl rfl gX4 tyX4 tyX4_ok nmX4 (by decide) fl_X4_47 rfl rfl (tyX4_ok 13 (by decide)) rfl rfl (show 13 < 14 by decide) dX4_prepare_47 (fun H locs hw hS => ?_)
  have hI := hI.free (b := 10) (k := 13) (v := (-99999999)) (by decide)
  have hk := hk.putS (a := 0) (b := 10) (k := 13) (v := (-99999999)) (by omega)
  exact m_vret X hr hlk hw hS (Nat.le_of_ble_eq_true rfl) (Nat.le_of_ble_eq_true rfl) ⟨rfl, _, rfl, hI, hk, by rw [tS_rd (by omega), tS_rd (by omega), tS_rd (by omega), tS_self]; rfl⟩ dX4_prepare_50
theorem v_X4_goOn : mVm yX4_goOn cX4_goOn 2 (some .int) 1 := ⟨cd_X4_goOn, im_X4_goOn, se_X4_goOn, ini_X4, by decide, by decide, by decide +kernel⟩
set_option maxHeartbeats 4000000 in
set_option maxRecDepth 100000 in
theorem k_X4_goOn (Γ : mG) (l : Launch) (L : mI → Nat) (x : CS)  (hI : CInv x) (hd0 : x.1 0 10 10 = nI 0) : mMet Γ l yX4_goOn cX4_goOn 2 (some .int) { frames := 6, cells := 0, slots := 0, locals := 144 } [.ref (L (nm 0 10)), .ref (L (nm 0 1))] L (cM Γ L x) (mQi Γ (fun _ => mKv Γ L x)) := by
  refine m_start (by decide) (Nat.le_of_ble_eq_true rfl) ?_
  intro p e s m args below meth c A ls X hr hlk hnm hw hS hl
  have hx := X.1.1
  have hb := X.1.2.1
  have hl : lv_has ls 2 [(0, .ref (L (nm 0 10))), (1, .ref (L (nm 0 1)))] := hl
  have hk : kp x x := kp.rf
  have KL : ∀ (n r : Nat) (y : CS) (H : Heap) (locs : List Loc) (ls : Array Slot), r + n = 2000 → CInv y → kp x y → y.1 0 10 10 = nI r → mW Γ.1 vwCl A L (cM Γ L y) H → va_S A s.heap H locs → lv_has ls 2 [(0, .ref (L (nm 0 10))), (1, .ref (L (nm 0 1)))] → W p l e { frames := 6, cells := 0, slots := 0, locals := 144 } s m args below meth c H locs 0 0 (MQ below (mQi Γ (fun _ => mKv Γ L x) A) args s 0 0 A) (F0 m 0 ls []) := by
    intro n
    induction n with
    | zero =>
      intro r y H locs ls f0 hI hk hrd hw hS hl
      refine lv_aload_n hx hb dX4_goOn_0 rfl (lv_at hl 0 rfl) ?_
      refine s_get (a := 0) (b := 10) (ci := 3) X hw rfl rfl gX4 7 (by decide) fl_X4_60 rfl rfl dX4_goOn_1 ?_
      refine lv_iconst (v := (-1)) hx hb dX4_goOn_4 (by decide) ?_
      refine lv_icmp_ne (tgt := 36) hx hb dX4_goOn_5 (by decide) (fun c_1 => ?_) (fun c_1 => ?_)
      · skip
        refine lv_aload_n hx hb dX4_goOn_36 rfl (lv_at hl 0 rfl) ?_
        refine s_get (a := 0) (b := 10) (ci := 3) X hw rfl rfl gX4 7 (by decide) fl_X4_60 rfl rfl dX4_goOn_37 ?_
        refine lv_iconst (v := (-1)) hx hb dX4_goOn_40 (by decide) ?_
        refine lv_icmp_ne (tgt := 50) hx hb dX4_goOn_41 (by decide) (fun c_2 => ?_) (fun c_2 => ?_)
        · skip
          refine lv_aload_n hx hb dX4_goOn_50 rfl (lv_at hl 0 rfl) ?_
          refine s_get (a := 0) (b := 10) (ci := 3) X hw rfl rfl gX4 7 (by decide) fl_X4_60 rfl rfl dX4_goOn_51 ?_
          exact m_iret X hr hlk hw hS (Nat.le_of_ble_eq_true rfl) (Nat.le_of_ble_eq_true rfl) ⟨rfl, _, rfl, hI, hk⟩ dX4_goOn_54
        · skip
          refine lv_aload_n hx hb dX4_goOn_44 rfl (lv_at hl 0 rfl) ?_
          refine lv_bipush (v := 8) hx hb dX4_goOn_45 (by decide) ?_
          refine s_put (a := 0) (b := 10) (v := 8) (ci := 3) (ty := tyX4 7) X hw hS 7 rfl rfl rfl gX4 tyX4 tyX4_ok nmX4 (by decide) fl_X4_60 rfl rfl (tyX4_ok 7 (by decide)) rfl rfl (show 7 < 14 by decide) dX4_goOn_47 (fun H locs hw hS => ?_)
          have hI := hI.free (b := 10) (k := 7) (v := 8) (by decide)
          have hk := hk.putS (a := 0) (b := 10) (k := 7) (v := 8) (by omega)
          refine lv_aload_n hx hb dX4_goOn_50 rfl (lv_at hl 0 rfl) ?_
          refine s_get (a := 0) (b := 10) (ci := 3) X hw rfl rfl gX4 7 (by decide) fl_X4_60 rfl rfl dX4_goOn_51 ?_
          exact m_iret X hr hlk hw hS (Nat.le_of_ble_eq_true rfl) (Nat.le_of_ble_eq_true rfl) ⟨rfl, _, rfl, hI, hk⟩ dX4_goOn_54
      · skip
        refine lv_aload_n hx hb dX4_goOn_8 rfl (lv_at hl 0 rfl) ?_
        refine s_get (a := 0) (b := 10) (ci := 3) X hw rfl rfl gX4 10 (by decide) fl_X4_66 rfl rfl dX4_goOn_9 ?_
        refine lv_sipush (v := 2000) hx hb dX4_goOn_12 (by decide) ?_
        refine lv_icmp_ge (tgt := 36) hx hb dX4_goOn_15 (by decide) (fun c_3 => ?_) (fun c_3 => ?_)
        · skip
          have c_3n : r ≥ 2000 := ngeT (a := r) (b := 2000) hrd rfl (by omega) (by omega) c_3
          have c_3m : ¬ r < 2000 := by omega
          refine lv_aload_n hx hb dX4_goOn_36 rfl (lv_at hl 0 rfl) ?_
          refine s_get (a := 0) (b := 10) (ci := 3) X hw rfl rfl gX4 7 (by decide) fl_X4_60 rfl rfl dX4_goOn_37 ?_
          refine lv_iconst (v := (-1)) hx hb dX4_goOn_40 (by decide) ?_
          refine lv_icmp_ne (tgt := 50) hx hb dX4_goOn_41 (by decide) (fun c_4 => ?_) (fun c_4 => ?_)
          · skip
            refine lv_aload_n hx hb dX4_goOn_50 rfl (lv_at hl 0 rfl) ?_
            refine s_get (a := 0) (b := 10) (ci := 3) X hw rfl rfl gX4 7 (by decide) fl_X4_60 rfl rfl dX4_goOn_51 ?_
            exact m_iret X hr hlk hw hS (Nat.le_of_ble_eq_true rfl) (Nat.le_of_ble_eq_true rfl) ⟨rfl, _, rfl, hI, hk⟩ dX4_goOn_54
          · skip
            refine lv_aload_n hx hb dX4_goOn_44 rfl (lv_at hl 0 rfl) ?_
            refine lv_bipush (v := 8) hx hb dX4_goOn_45 (by decide) ?_
            refine s_put (a := 0) (b := 10) (v := 8) (ci := 3) (ty := tyX4 7) X hw hS 7 rfl rfl rfl gX4 tyX4 tyX4_ok nmX4 (by decide) fl_X4_60 rfl rfl (tyX4_ok 7 (by decide)) rfl rfl (show 7 < 14 by decide) dX4_goOn_47 (fun H locs hw hS => ?_)
            have hI := hI.free (b := 10) (k := 7) (v := 8) (by decide)
            have hk := hk.putS (a := 0) (b := 10) (k := 7) (v := 8) (by omega)
            refine lv_aload_n hx hb dX4_goOn_50 rfl (lv_at hl 0 rfl) ?_
            refine s_get (a := 0) (b := 10) (ci := 3) X hw rfl rfl gX4 7 (by decide) fl_X4_60 rfl rfl dX4_goOn_51 ?_
            exact m_iret X hr hlk hw hS (Nat.le_of_ble_eq_true rfl) (Nat.le_of_ble_eq_true rfl) ⟨rfl, _, rfl, hI, hk⟩ dX4_goOn_54
        · skip
          have c_3n : ¬ r ≥ 2000 := ngeF (a := r) (b := 2000) hrd rfl (by omega) (by omega) c_3
          have c_3m : r < 2000 := by omega
          refine lv_aload_n hx hb dX4_goOn_18 rfl (lv_at hl 0 rfl) ?_
          refine lv_dup hx hb dX4_goOn_19 rfl ?_
          refine s_get (a := 0) (b := 10) (ci := 3) X hw rfl rfl gX4 10 (by decide) fl_X4_66 rfl rfl dX4_goOn_20 ?_
          refine lv_iconst (v := 1) hx hb dX4_goOn_23 (by decide) ?_
          refine lv_iadd hx hb dX4_goOn_24 ?_
          refine lv_topi (fun v_5 ev_5 => ?_)
          obtain rfl : v_5 = nI (r + 1) := ev_5.trans (nadd (a := r) (b := 1) hrd rfl)
          clear ev_5
          refine s_put (a := 0) (b := 10) (v := nI (r + 1)) (ci := 3) (ty := tyX4 10) X hw hS 10 rfl rfl rfl gX4 tyX4 tyX4_ok nmX4 (by decide) fl_X4_66 rfl rfl (tyX4_ok 10 (by decide)) rfl rfl (show 10 < 14 by decide) dX4_goOn_25 (fun H locs hw hS => ?_)
          have hI := hI.free (b := 10) (k := 10) (v := nI (r + 1)) (by decide)
          have hk := hk.putS (a := 0) (b := 10) (k := 10) (v := nI (r + 1)) (by omega)
          have hrd : (tS y 0 10 10 (nI (r + 1))).1 0 10 10 = nI (r + 1) := tS_self
          refine lv_aload_n hx hb dX4_goOn_28 rfl (lv_at hl 0 rfl) ?_
          refine lv_aload_n hx hb dX4_goOn_29 rfl (lv_at hl 1 rfl) ?_
          refine m_callv (m_runV (i := nm 0 10) (ci := 3) (As := [.ref (L (nm 0 1))]) (rest := []) X (k_X4_doNext Γ l L (tS y 0 10 10 (nI (r + 1)))  hI) v_X4_doNext ml_X4_72 hw hS rfl rfl rfl rfl hl.1 ⟨Nat.le_of_ble_eq_true rfl, Nat.le_of_ble_eq_true rfl⟩ (Nat.le_of_ble_eq_true rfl) ⟨Nat.le_of_ble_eq_true rfl, Nat.le_of_ble_eq_true rfl⟩ dX4_goOn_30) hS (fun L1 M1 H locs hp_6 hw hS => ?_)
          obtain ⟨e1, c_6, e2, hI_6, hk_6⟩ := hp_6
          rw [e1, e2] at hw; clear e1 e2
          have hk := hk.tr hk_6.1
          have hI := hI_6
          have hrd := hk_6.2.trans hrd
          refine lv_goto (tgt := 0) hx hb dX4_goOn_33 (by decide) ?_
          exact (by omega : False).elim
    | succ n ih =>
      intro r y H locs ls f0 hI hk hrd hw hS hl
      refine lv_aload_n hx hb dX4_goOn_0 rfl (lv_at hl 0 rfl) ?_
      refine s_get (a := 0) (b := 10) (ci := 3) X hw rfl rfl gX4 7 (by decide) fl_X4_60 rfl rfl dX4_goOn_1 ?_
      refine lv_iconst (v := (-1)) hx hb dX4_goOn_4 (by decide) ?_
      refine lv_icmp_ne (tgt := 36) hx hb dX4_goOn_5 (by decide) (fun c_7 => ?_) (fun c_7 => ?_)
      · skip
        refine lv_aload_n hx hb dX4_goOn_36 rfl (lv_at hl 0 rfl) ?_
        refine s_get (a := 0) (b := 10) (ci := 3) X hw rfl rfl gX4 7 (by decide) fl_X4_60 rfl rfl dX4_goOn_37 ?_
        refine lv_iconst (v := (-1)) hx hb dX4_goOn_40 (by decide) ?_
        refine lv_icmp_ne (tgt := 50) hx hb dX4_goOn_41 (by decide) (fun c_8 => ?_) (fun c_8 => ?_)
        · skip
          refine lv_aload_n hx hb dX4_goOn_50 rfl (lv_at hl 0 rfl) ?_
          refine s_get (a := 0) (b := 10) (ci := 3) X hw rfl rfl gX4 7 (by decide) fl_X4_60 rfl rfl dX4_goOn_51 ?_
          exact m_iret X hr hlk hw hS (Nat.le_of_ble_eq_true rfl) (Nat.le_of_ble_eq_true rfl) ⟨rfl, _, rfl, hI, hk⟩ dX4_goOn_54
        · skip
          refine lv_aload_n hx hb dX4_goOn_44 rfl (lv_at hl 0 rfl) ?_
          refine lv_bipush (v := 8) hx hb dX4_goOn_45 (by decide) ?_
          refine s_put (a := 0) (b := 10) (v := 8) (ci := 3) (ty := tyX4 7) X hw hS 7 rfl rfl rfl gX4 tyX4 tyX4_ok nmX4 (by decide) fl_X4_60 rfl rfl (tyX4_ok 7 (by decide)) rfl rfl (show 7 < 14 by decide) dX4_goOn_47 (fun H locs hw hS => ?_)
          have hI := hI.free (b := 10) (k := 7) (v := 8) (by decide)
          have hk := hk.putS (a := 0) (b := 10) (k := 7) (v := 8) (by omega)
          refine lv_aload_n hx hb dX4_goOn_50 rfl (lv_at hl 0 rfl) ?_
          refine s_get (a := 0) (b := 10) (ci := 3) X hw rfl rfl gX4 7 (by decide) fl_X4_60 rfl rfl dX4_goOn_51 ?_
          exact m_iret X hr hlk hw hS (Nat.le_of_ble_eq_true rfl) (Nat.le_of_ble_eq_true rfl) ⟨rfl, _, rfl, hI, hk⟩ dX4_goOn_54
      · skip
        refine lv_aload_n hx hb dX4_goOn_8 rfl (lv_at hl 0 rfl) ?_
        refine s_get (a := 0) (b := 10) (ci := 3) X hw rfl rfl gX4 10 (by decide) fl_X4_66 rfl rfl dX4_goOn_9 ?_
        refine lv_sipush (v := 2000) hx hb dX4_goOn_12 (by decide) ?_
        refine lv_icmp_ge (tgt := 36) hx hb dX4_goOn_15 (by decide) (fun c_9 => ?_) (fun c_9 => ?_)
        · skip
          have c_9n : r ≥ 2000 := ngeT (a := r) (b := 2000) hrd rfl (by omega) (by omega) c_9
          have c_9m : ¬ r < 2000 := by omega
          refine lv_aload_n hx hb dX4_goOn_36 rfl (lv_at hl 0 rfl) ?_
          refine s_get (a := 0) (b := 10) (ci := 3) X hw rfl rfl gX4 7 (by decide) fl_X4_60 rfl rfl dX4_goOn_37 ?_
          refine lv_iconst (v := (-1)) hx hb dX4_goOn_40 (by decide) ?_
          refine lv_icmp_ne (tgt := 50) hx hb dX4_goOn_41 (by decide) (fun c_10 => ?_) (fun c_10 => ?_)
          · skip
            refine lv_aload_n hx hb dX4_goOn_50 rfl (lv_at hl 0 rfl) ?_
            refine s_get (a := 0) (b := 10) (ci := 3) X hw rfl rfl gX4 7 (by decide) fl_X4_60 rfl rfl dX4_goOn_51 ?_
            exact m_iret X hr hlk hw hS (Nat.le_of_ble_eq_true rfl) (Nat.le_of_ble_eq_true rfl) ⟨rfl, _, rfl, hI, hk⟩ dX4_goOn_54
          · skip
            refine lv_aload_n hx hb dX4_goOn_44 rfl (lv_at hl 0 rfl) ?_
            refine lv_bipush (v := 8) hx hb dX4_goOn_45 (by decide) ?_
            refine s_put (a := 0) (b := 10) (v := 8) (ci := 3) (ty := tyX4 7) X hw hS 7 rfl rfl rfl gX4 tyX4 tyX4_ok nmX4 (by decide) fl_X4_60 rfl rfl (tyX4_ok 7 (by decide)) rfl rfl (show 7 < 14 by decide) dX4_goOn_47 (fun H locs hw hS => ?_)
            have hI := hI.free (b := 10) (k := 7) (v := 8) (by decide)
            have hk := hk.putS (a := 0) (b := 10) (k := 7) (v := 8) (by omega)
            refine lv_aload_n hx hb dX4_goOn_50 rfl (lv_at hl 0 rfl) ?_
            refine s_get (a := 0) (b := 10) (ci := 3) X hw rfl rfl gX4 7 (by decide) fl_X4_60 rfl rfl dX4_goOn_51 ?_
            exact m_iret X hr hlk hw hS (Nat.le_of_ble_eq_true rfl) (Nat.le_of_ble_eq_true rfl) ⟨rfl, _, rfl, hI, hk⟩ dX4_goOn_54
        · skip
          have c_9n : ¬ r ≥ 2000 := ngeF (a := r) (b := 2000) hrd rfl (by omega) (by omega) c_9
          have c_9m : r < 2000 := by omega
          refine lv_aload_n hx hb dX4_goOn_18 rfl (lv_at hl 0 rfl) ?_
          refine lv_dup hx hb dX4_goOn_19 rfl ?_
          refine s_get (a := 0) (b := 10) (ci := 3) X hw rfl rfl gX4 10 (by decide) fl_X4_66 rfl rfl dX4_goOn_20 ?_
          refine lv_iconst (v := 1) hx hb dX4_goOn_23 (by decide) ?_
          refine lv_iadd hx hb dX4_goOn_24 ?_
          refine lv_topi (fun v_11 ev_11 => ?_)
          obtain rfl : v_11 = nI (r + 1) := ev_11.trans (nadd (a := r) (b := 1) hrd rfl)
          clear ev_11
          refine s_put (a := 0) (b := 10) (v := nI (r + 1)) (ci := 3) (ty := tyX4 10) X hw hS 10 rfl rfl rfl gX4 tyX4 tyX4_ok nmX4 (by decide) fl_X4_66 rfl rfl (tyX4_ok 10 (by decide)) rfl rfl (show 10 < 14 by decide) dX4_goOn_25 (fun H locs hw hS => ?_)
          have hI := hI.free (b := 10) (k := 10) (v := nI (r + 1)) (by decide)
          have hk := hk.putS (a := 0) (b := 10) (k := 10) (v := nI (r + 1)) (by omega)
          have hrd : (tS y 0 10 10 (nI (r + 1))).1 0 10 10 = nI (r + 1) := tS_self
          refine lv_aload_n hx hb dX4_goOn_28 rfl (lv_at hl 0 rfl) ?_
          refine lv_aload_n hx hb dX4_goOn_29 rfl (lv_at hl 1 rfl) ?_
          refine m_callv (m_runV (i := nm 0 10) (ci := 3) (As := [.ref (L (nm 0 1))]) (rest := []) X (k_X4_doNext Γ l L (tS y 0 10 10 (nI (r + 1)))  hI) v_X4_doNext ml_X4_72 hw hS rfl rfl rfl rfl hl.1 ⟨Nat.le_of_ble_eq_true rfl, Nat.le_of_ble_eq_true rfl⟩ (Nat.le_of_ble_eq_true rfl) ⟨Nat.le_of_ble_eq_true rfl, Nat.le_of_ble_eq_true rfl⟩ dX4_goOn_30) hS (fun L1 M1 H locs hp_12 hw hS => ?_)
          obtain ⟨e1, c_12, e2, hI_12, hk_12⟩ := hp_12
          rw [e1, e2] at hw; clear e1 e2
          have hk := hk.tr hk_12.1
          have hI := hI_12
          have hrd := hk_12.2.trans hrd
          refine lv_goto (tgt := 0) hx hb dX4_goOn_33 (by decide) ?_
          exact ih (r + 1) _ _ _ ls (by omega) hI hk hrd hw hS (lv_sub hl [0, 1] rfl)
  exact KL 2000 0 _ _ _ ls rfl hI hk hd0 hw hS hl
