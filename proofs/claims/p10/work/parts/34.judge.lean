/-! judge -/
def r_verdict (w : Int32) : Int32 := if w < 0 then 0 else 1 + w
theorem v_X10_judge : mVm yX10_judge cX10_judge 3 (some .int) 1 := ⟨cd_X10_judge, im_X10_judge, se_X10_judge, ini_X10, by decide, by decide, by decide +kernel⟩
set_option maxHeartbeats 4000000 in
set_option maxRecDepth 100000 in
theorem k_X10_judge (Γ : mG) (l : Launch) (L : mI → Nat) (x : RS) (h : Nat → Int32) (d : Nat) (a : Int32) (n : Nat) (om hn : Nat → Nat) (hf hto hat hwh : Nat → Nat → Nat) (pm : Nat → Nat) (hnn : x.1 0 = nI n) (h8 : n ≤ 8) (hR : ∀ k, k < n → RC x k (om k) (hn k) (hf k) (hto k) (hat k) (hwh k) pm) : mMet Γ l yX10_judge cX10_judge 3 (some .int) { frames := 8, cells := 0, slots := 0, locals := 186 } [.ref (L (.inl 0)), .int a] L (rM Γ L (sH x (h, d))) (mQi Γ (fun r L1 M1 => (r_isM n a = false ∧ r = -1 ∧ L1 = L ∧ M1 = rM Γ L (sH x (h, d))) ∨ (r_isM n a = true ∧ ∃ q, r = r_verdict (r_wbf a.toNatClampNeg (om a.toNatClampNeg) (hn a.toNatClampNeg) (hf a.toNatClampNeg) (hto a.toNatClampNeg) (hat a.toNatClampNeg) pm (om a.toNatClampNeg) 0 (r_forget x) (p_begin (pm a.toNatClampNeg) h, 0) true).1 ∧ L1 = L ∧ M1 = rM Γ L (sH (sA (r_wbf a.toNatClampNeg (om a.toNatClampNeg) (hn a.toNatClampNeg) (hf a.toNatClampNeg) (hto a.toNatClampNeg) (hat a.toNatClampNeg) pm (om a.toNatClampNeg) 0 (r_forget x) (p_begin (pm a.toNatClampNeg) h, 0) true).2 9 a.toNatClampNeg (bI (decide ((r_wbf a.toNatClampNeg (om a.toNatClampNeg) (hn a.toNatClampNeg) (hf a.toNatClampNeg) (hto a.toNatClampNeg) (hat a.toNatClampNeg) pm (om a.toNatClampNeg) 0 (r_forget x) (p_begin (pm a.toNatClampNeg) h, 0) true).1 < 0)))) q)))) := by
  refine m_start (by decide) (Nat.le_of_ble_eq_true rfl) ?_
  intro p e s m args below meth c A ls X hr hlk hnm hw hS hl
  have hx := X.1.1
  have hb := X.1.2.1
  have hl : lv_has ls 3 [(0, .ref (L (.inl 0))), (1, .int a)] := hl
  refine lv_aload_n hx hb dX10_judge_0 rfl (lv_at hl 0 rfl) ?_
  refine lv_iload_n hx hb dX10_judge_1 rfl (lv_at hl 1 rfl) ?_
  refine m_calli (m_runV (i := .inl 0) (ci := 8) (As := [.int a]) (rest := []) X (k_X10_isMethod Γ l L (sH x (h, d)) a n hnn h8) v_X10_isMethod ml_X10_130 hw hS rfl rfl rfl rfl hl.1 ⟨Nat.le_of_ble_eq_true rfl, Nat.le_of_ble_eq_true rfl⟩ (Nat.le_of_ble_eq_true rfl) ⟨Nat.le_of_ble_eq_true rfl, Nat.le_of_ble_eq_true rfl⟩ dX10_judge_2) hS (fun r_2 L1 M1 H locs hp_1 hw hS => ?_)
  obtain ⟨rfl, e1, e2⟩ := hp_1
  rw [e1, e2] at hw; clear e1 e2
  refine lv_if_ne (tgt := 10) hx hb dX10_judge_5 (by decide) (fun c_3 => ?_) (fun c_3 => ?_)
  · skip
    have c_3 := bI_t c_3
    have c_30 := c_3
    obtain ⟨k, hk, rfl⟩ := isM_nat c_30
    have hck : (nI k).toNatClampNeg = k := nI_clamp (by omega)
    have hR := hR k hk
    refine lv_aload_n hx hb dX10_judge_10 rfl (lv_at hl 0 rfl) ?_
    refine lv_iload_n hx hb dX10_judge_11 rfl (lv_at hl 1 rfl) ?_
    refine m_calli (m_runV (i := .inl 0) (ci := 8) (As := [.int (nI k)]) (rest := []) X (k_X10_wrongByFrames Γ l L x h d (nI k) k _ _ _ _ _ (hwh k) pm rfl (by omega) hR) v_X10_wrongByFrames ml_X10_209 hw hS rfl rfl rfl rfl hl.1 ⟨Nat.le_of_ble_eq_true rfl, Nat.le_of_ble_eq_true rfl⟩ (Nat.le_of_ble_eq_true rfl) ⟨Nat.le_of_ble_eq_true rfl, Nat.le_of_ble_eq_true rfl⟩ dX10_judge_12) hS (fun r_5 L1 M1 H locs hp_4 hw hS => ?_)
    obtain ⟨q_1, ew, e1, e2⟩ := hp_4
    rw [e1, e2] at hw; clear e1 e2
    obtain ⟨S0, hS0⟩ : ∃ z, z = (r_wbf k (om k) (hn k) (hf k) (hto k) (hat k) pm (om k) 0 (r_forget x) (p_begin (pm k) h, 0) true) := ⟨_, rfl⟩
    rw [← hS0] at ew hw
    have ewr := ew
    refine lv_istore_n (lv' := [(2, .int r_5), (0, .ref (L (.inl 0))), (1, .int (nI k))]) hx hb dX10_judge_15 rfl hl (by decide) rfl (fun ls hl => ?_)
    refine lv_aload_n hx hb dX10_judge_16 rfl (lv_at hl 1 rfl) ?_
    refine r_get9 X hw dX10_judge_17 ?_
    refine lv_iload_n hx hb dX10_judge_20 rfl (lv_at hl 2 rfl) ?_
    refine lv_iload_n hx hb dX10_judge_21 rfl (lv_at hl 0 rfl) ?_
    refine lv_if_ge (tgt := 29) hx hb dX10_judge_22 (by decide) (fun c_6 => ?_) (fun c_6 => ?_)
    · skip
      refine lv_iconst (v := 0) hx hb dX10_judge_29 (by decide) ?_
      refine h_ast9 (n := k) X hw hS rfl (by omega) dX10_judge_30 (fun H locs hw hS => ?_)
      refine lv_iload_n hx hb dX10_judge_31 rfl (lv_at hl 0 rfl) ?_
      refine lv_if_ge (tgt := 39) hx hb dX10_judge_32 (by decide) (fun c_7 => ?_) (fun c_7 => ?_)
      · skip
        refine lv_iconst (v := 1) hx hb dX10_judge_39 (by decide) ?_
        refine lv_iload_n hx hb dX10_judge_40 rfl (lv_at hl 0 rfl) ?_
        refine lv_iadd hx hb dX10_judge_41 ?_
        exact m_iret X hr hlk hw hS (Nat.zero_le _) (Nat.zero_le _) (Or.inr ⟨by assumption, (q_1.1, q_1.2), by first | contradiction | (have z9 : ¬ S0.1 < 0 := (by rw [← ew]; exact Int32.not_lt.mpr (by assumption)); rw [hck, ← hS0, r_verdict, if_neg z9, ew]) | (have z9 : S0.1 < 0 := (by rw [← ew]; exact Int32.not_le.mp (by assumption)); rw [hck, ← hS0, r_verdict, if_pos z9]), rfl, by first | contradiction | (have z9 : ¬ S0.1 < 0 := (by rw [← ew]; exact Int32.not_lt.mpr (by assumption)); rw [hck, ← hS0, decide_eq_false z9]; rfl) | (have z9 : S0.1 < 0 := (by rw [← ew]; exact Int32.not_le.mp (by assumption)); rw [hck, ← hS0, decide_eq_true z9]; rfl)⟩) dX10_judge_42
      · skip
        refine lv_iconst (v := 0) hx hb dX10_judge_35 (by decide) ?_
        refine lv_goto (tgt := 42) hx hb dX10_judge_36 (by decide) ?_
        exact m_iret X hr hlk hw hS (Nat.zero_le _) (Nat.zero_le _) (Or.inr ⟨by assumption, (q_1.1, q_1.2), by first | contradiction | (have z9 : ¬ S0.1 < 0 := (by rw [← ew]; exact Int32.not_lt.mpr (by assumption)); rw [hck, ← hS0, r_verdict, if_neg z9, ew]) | (have z9 : S0.1 < 0 := (by rw [← ew]; exact Int32.not_le.mp (by assumption)); rw [hck, ← hS0, r_verdict, if_pos z9]), rfl, by first | contradiction | (have z9 : ¬ S0.1 < 0 := (by rw [← ew]; exact Int32.not_lt.mpr (by assumption)); rw [hck, ← hS0, decide_eq_false z9]; rfl) | (have z9 : S0.1 < 0 := (by rw [← ew]; exact Int32.not_le.mp (by assumption)); rw [hck, ← hS0, decide_eq_true z9]; rfl)⟩) dX10_judge_42
    · skip
      refine lv_iconst (v := 1) hx hb dX10_judge_25 (by decide) ?_
      refine lv_goto (tgt := 30) hx hb dX10_judge_26 (by decide) ?_
      refine h_ast9 (n := k) X hw hS rfl (by omega) dX10_judge_30 (fun H locs hw hS => ?_)
      refine lv_iload_n hx hb dX10_judge_31 rfl (lv_at hl 0 rfl) ?_
      refine lv_if_ge (tgt := 39) hx hb dX10_judge_32 (by decide) (fun c_8 => ?_) (fun c_8 => ?_)
      · skip
        refine lv_iconst (v := 1) hx hb dX10_judge_39 (by decide) ?_
        refine lv_iload_n hx hb dX10_judge_40 rfl (lv_at hl 0 rfl) ?_
        refine lv_iadd hx hb dX10_judge_41 ?_
        exact m_iret X hr hlk hw hS (Nat.zero_le _) (Nat.zero_le _) (Or.inr ⟨by assumption, (q_1.1, q_1.2), by first | contradiction | (have z9 : ¬ S0.1 < 0 := (by rw [← ew]; exact Int32.not_lt.mpr (by assumption)); rw [hck, ← hS0, r_verdict, if_neg z9, ew]) | (have z9 : S0.1 < 0 := (by rw [← ew]; exact Int32.not_le.mp (by assumption)); rw [hck, ← hS0, r_verdict, if_pos z9]), rfl, by first | contradiction | (have z9 : ¬ S0.1 < 0 := (by rw [← ew]; exact Int32.not_lt.mpr (by assumption)); rw [hck, ← hS0, decide_eq_false z9]; rfl) | (have z9 : S0.1 < 0 := (by rw [← ew]; exact Int32.not_le.mp (by assumption)); rw [hck, ← hS0, decide_eq_true z9]; rfl)⟩) dX10_judge_42
      · skip
        refine lv_iconst (v := 0) hx hb dX10_judge_35 (by decide) ?_
        refine lv_goto (tgt := 42) hx hb dX10_judge_36 (by decide) ?_
        exact m_iret X hr hlk hw hS (Nat.zero_le _) (Nat.zero_le _) (Or.inr ⟨by assumption, (q_1.1, q_1.2), by first | contradiction | (have z9 : ¬ S0.1 < 0 := (by rw [← ew]; exact Int32.not_lt.mpr (by assumption)); rw [hck, ← hS0, r_verdict, if_neg z9, ew]) | (have z9 : S0.1 < 0 := (by rw [← ew]; exact Int32.not_le.mp (by assumption)); rw [hck, ← hS0, r_verdict, if_pos z9]), rfl, by first | contradiction | (have z9 : ¬ S0.1 < 0 := (by rw [← ew]; exact Int32.not_lt.mpr (by assumption)); rw [hck, ← hS0, decide_eq_false z9]; rfl) | (have z9 : S0.1 < 0 := (by rw [← ew]; exact Int32.not_le.mp (by assumption)); rw [hck, ← hS0, decide_eq_true z9]; rfl)⟩) dX10_judge_42
  · skip
    have c_3 := bI_f c_3
    refine lv_iconst (v := (-1)) hx hb dX10_judge_8 (by decide) ?_
    exact m_iret X hr hlk hw hS (Nat.zero_le _) (Nat.zero_le _) (Or.inl ⟨c_3, rfl, rfl, rfl⟩) dX10_judge_9
