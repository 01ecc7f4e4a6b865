/-! op, handler -/
def r_hand4 (x : RS) (k g : Nat) (b e2 g2 w2 : Int32) : RS := sA (sA (sA (sA x 6 (4 * (6 * k + g)) b) 6 (4 * (6 * k + g) + 1) e2) 6 (4 * (6 * k + g) + 2) g2) 6 (4 * (6 * k + g) + 3) w2
def r_handler (x : RS) (n : Nat) (hm : Nat → Nat) (a b e2 g2 w2 : Int32) : Int32 × RS := if r_isM n a = true ∧ ¬ b < 0 ∧ ¬ e2 ≤ b ∧ ¬ 40 < e2 ∧ r_isIn g2.toInt64 0 39 = true ∧ r_isIn w2.toInt64 0 7 = true then (if hm a.toNatClampNeg = 6 then (-3, x) else (nI (hm a.toNatClampNeg + 1), sA (sA (r_hand4 x a.toNatClampNeg (hm a.toNatClampNeg) b e2 g2 w2) 5 a.toNatClampNeg (nI (hm a.toNatClampNeg + 1))) 9 a.toNatClampNeg 0)) else (-1, x)
theorem v_X10_op : mVm yX10_op cX10_op 5 (some .int) 3 := ⟨cd_X10_op, im_X10_op, se_X10_op, ini_X10, by decide, by decide, by decide +kernel⟩
set_option maxHeartbeats 4000000 in
set_option maxRecDepth 100000 in
theorem k_X10_op (Γ : mG) (l : Launch) (L : mI → Nat) (x : RS) (a : Int32) (o : Int32) (v : Int64) (n : Nat) (hn : x.1 0 = nI n) (h8 : n ≤ 8) (om : Nat → Nat) (hom : ∀ k, k < 8 → x.2.1 2 k = nI (om k)) (hom2 : ∀ k, k < 8 → om k ≤ 40) : mMet Γ l yX10_op cX10_op 5 (some .int) { frames := 2, cells := 0, slots := 0, locals := 46 } [.ref (L (.inl 0)), .int a, .int o, .long v] L (rM Γ L x) (mQi Γ (fun r L1 M1 => r = (r_op x n om a o v).1 ∧ L1 = L ∧ M1 = rM Γ L (r_op x n om a o v).2)) := by
  refine m_start (by decide) (Nat.le_of_ble_eq_true rfl) ?_
  intro p e s m args below meth c A ls X hr hlk hnm hw hS hl
  have hx := X.1.1
  have hb := X.1.2.1
  have hl : lv_has ls 5 [(0, .ref (L (.inl 0))), (1, .int a), (2, .int o), (3, .long v)] := hl
  refine lv_aload_n hx hb dX10_op_0 rfl (lv_at hl 0 rfl) ?_
  refine lv_iload_n hx hb dX10_op_1 rfl (lv_at hl 1 rfl) ?_
  refine m_calli (m_runV (i := .inl 0) (ci := 8) (As := [.int a]) (rest := []) X (k_X10_isMethod Γ l L x a n hn h8) v_X10_isMethod ml_X10_130 hw hS rfl rfl rfl rfl hl.1 ⟨Nat.le_of_ble_eq_true rfl, Nat.le_of_ble_eq_true rfl⟩ (Nat.le_of_ble_eq_true rfl) ⟨Nat.le_of_ble_eq_true rfl, Nat.le_of_ble_eq_true rfl⟩ dX10_op_2) hS (fun r_2 L1 M1 H locs hp_1 hw hS => ?_)
  obtain ⟨rfl, e1, e2⟩ := hp_1
  rw [e1, e2] at hw; clear e1 e2
  refine lv_if_ne (tgt := 10) hx hb dX10_op_5 (by decide) (fun c_3 => ?_) (fun c_3 => ?_)
  · skip
    have c_3 := bI_t c_3
    have c_30 := c_3
    obtain ⟨k_4, hk_k_4, rfl⟩ := isM_nat c_30
    have hc_k_4 : (nI k_4).toNatClampNeg = k_4 := nI_clamp (by omega)
    have hq_k_4 := hom2 k_4 (by omega)
    refine lv_aload_n hx hb dX10_op_10 rfl (lv_at hl 0 rfl) ?_
    refine r_get2 X hw dX10_op_11 ?_
    refine lv_iload_n hx hb dX10_op_14 rfl (lv_at hl 1 rfl) ?_
    refine r_ald2N X hw rfl (by omega) dX10_op_15 ?_
    refine lv_bipush (v := 40) hx hb dX10_op_16 (by decide) ?_
    refine lv_icmp_ne (tgt := 24) hx hb dX10_op_18 (by decide) (fun c_5 => ?_) (fun c_5 => ?_)
    · skip
      have c_5n : ¬ (om k_4) = 40 := nneT (a := om k_4) (b := 40) (hom _ (by omega)) rfl (by omega) (by omega) c_5
      refine lv_aload_n hx hb dX10_op_24 rfl (lv_at hl 0 rfl) ?_
      refine r_get3 X hw dX10_op_25 ?_
      refine lv_bipush (v := 40) hx hb dX10_op_28 (by decide) ?_
      refine lv_iload_n hx hb dX10_op_30 rfl (lv_at hl 1 rfl) ?_
      refine lv_imul hx hb dX10_op_31 ?_
      refine lv_aload_n hx hb dX10_op_32 rfl (lv_at hl 0 rfl) ?_
      refine r_get2 X hw dX10_op_33 ?_
      refine lv_iload_n hx hb dX10_op_36 rfl (lv_at hl 1 rfl) ?_
      refine r_ald2N X hw rfl (by omega) dX10_op_37 ?_
      refine lv_iadd hx hb dX10_op_38 ?_
      refine lv_iload_n hx hb dX10_op_39 rfl (lv_at hl 2 rfl) ?_
      refine r_ast3N X hw hS (nadd (a := 40 * k_4) (b := om k_4) (nmul (a := 40) (b := k_4) rfl rfl) (hom _ (by omega))) (by omega) dX10_op_40 (fun H locs hw hS => ?_)
      refine lv_aload_n hx hb dX10_op_41 rfl (lv_at hl 0 rfl) ?_
      refine r_get4 X hw dX10_op_42 ?_
      refine lv_bipush (v := 40) hx hb dX10_op_45 (by decide) ?_
      refine lv_iload_n hx hb dX10_op_47 rfl (lv_at hl 1 rfl) ?_
      refine lv_imul hx hb dX10_op_48 ?_
      refine lv_aload_n hx hb dX10_op_49 rfl (lv_at hl 0 rfl) ?_
      refine r_get2 X hw dX10_op_50 ?_
      refine lv_iload_n hx hb dX10_op_53 rfl (lv_at hl 1 rfl) ?_
      refine r_ald2N X hw rfl (by omega) dX10_op_54 ?_
      refine lv_iadd hx hb dX10_op_55 ?_
      refine lv_lload_n hx hb dX10_op_56 rfl (lv_at hl 3 rfl) ?_
      refine r_ast4N X hw hS (nadd (a := 40 * k_4) (b := om k_4) (nmul (a := 40) (b := k_4) rfl rfl) (hom _ (by omega))) (by omega) dX10_op_57 (fun H locs hw hS => ?_)
      refine lv_aload_n hx hb dX10_op_58 rfl (lv_at hl 0 rfl) ?_
      refine r_get2 X hw dX10_op_59 ?_
      refine lv_iload_n hx hb dX10_op_62 rfl (lv_at hl 1 rfl) ?_
      refine lv_dup2_11 hx hb dX10_op_63 rfl rfl ?_
      refine r_ald2N X hw rfl (by omega) dX10_op_64 ?_
      refine lv_iconst (v := 1) hx hb dX10_op_65 (by decide) ?_
      refine lv_iadd hx hb dX10_op_66 ?_
      refine lv_topi (fun v_6 ev_6 => ?_)
      obtain rfl : v_6 = nI ((om k_4) + 1) := ev_6.trans (nadd (a := om k_4) (b := 1) (hom _ (by omega)) rfl)
      clear ev_6
      refine r_ast2N X hw hS rfl (by omega) dX10_op_67 (fun H locs hw hS => ?_)
      refine lv_aload_n hx hb dX10_op_68 rfl (lv_at hl 0 rfl) ?_
      refine lv_iload_n hx hb dX10_op_69 rfl (lv_at hl 1 rfl) ?_
      refine m_callv (m_runV (i := .inl 0) (ci := 8) (As := [.int (nI k_4)]) (rest := []) X (k_X10_changed Γ l L (sA (sJ (sA x 3 ((40 * k_4) + (om k_4)) o) 4 ((40 * k_4) + (om k_4)) v) 2 k_4 (nI ((om k_4) + 1))) (nI k_4) k_4 rfl (by omega)) v_X10_changed ml_X10_133 hw hS rfl rfl rfl rfl hl.1 ⟨Nat.le_of_ble_eq_true rfl, Nat.le_of_ble_eq_true rfl⟩ (Nat.le_of_ble_eq_true rfl) ⟨Nat.le_of_ble_eq_true rfl, Nat.le_of_ble_eq_true rfl⟩ dX10_op_70) hS (fun L1 M1 H locs hp_7 hw hS => ?_)
      obtain ⟨e1, e2⟩ := hp_7
      rw [e1, e2] at hw; clear e1 e2
      refine lv_aload_n hx hb dX10_op_73 rfl (lv_at hl 0 rfl) ?_
      refine r_get2 X hw dX10_op_74 ?_
      refine lv_iload_n hx hb dX10_op_77 rfl (lv_at hl 1 rfl) ?_
      refine r_ald2N X hw rfl (by omega) dX10_op_78 ?_
      refine lv_iconst (v := 1) hx hb dX10_op_79 (by decide) ?_
      refine lv_isub hx hb dX10_op_80 ?_
      refine lv_topi (fun v_9 ev_9 => ?_)
      obtain rfl : v_9 = nI ((om k_4 + 1) - 1) := ev_9.trans (nsub (a := om k_4 + 1) (b := 1) (by omega) (by simp [sA, sJ, va_up, upd]) rfl)
      clear ev_9
      exact m_iret X hr hlk hw hS (Nat.zero_le _) (Nat.zero_le _) ⟨by clear hb hx hl hS hw hnm hlk hr X; first | rfl | (simp_all [bI, r_op]; done) | (simp_all [bI, r_op]; rfl), rfl, by clear hb hx hl hS hw hnm hlk hr X; first | rfl | (simp_all [bI, r_op]; done) | (simp_all [bI, r_op]; rfl)⟩ dX10_op_81
    · skip
      have c_5n : (om k_4) = 40 := nneF (a := om k_4) (b := 40) (hom _ (by omega)) rfl (by omega) (by omega) c_5
      refine lv_bipush (v := (-3)) hx hb dX10_op_21 (by decide) ?_
      exact m_iret X hr hlk hw hS (Nat.zero_le _) (Nat.zero_le _) ⟨by clear hb hx hl hS hw hnm hlk hr X; first | rfl | (simp_all [bI, r_op]; done) | (simp_all [bI, r_op]; rfl), rfl, by clear hb hx hl hS hw hnm hlk hr X; first | rfl | (simp_all [bI, r_op]; done) | (simp_all [bI, r_op]; rfl)⟩ dX10_op_23
  · skip
    have c_3 := bI_f c_3
    refine lv_iconst (v := (-1)) hx hb dX10_op_8 (by decide) ?_
    exact m_iret X hr hlk hw hS (Nat.zero_le _) (Nat.zero_le _) ⟨by clear hb hx hl hS hw hnm hlk hr X; first | rfl | (simp_all [bI, r_op]; done) | (simp_all [bI, r_op]; rfl), rfl, by clear hb hx hl hS hw hnm hlk hr X; first | rfl | (simp_all [bI, r_op]; done) | (simp_all [bI, r_op]; rfl)⟩ dX10_op_9
theorem v_X10_handler : mVm yX10_handler cX10_handler 7 (some .int) 5 := ⟨cd_X10_handler, im_X10_handler, se_X10_handler, ini_X10, by decide, by decide, by decide +kernel⟩
set_option maxHeartbeats 4000000 in
set_option maxRecDepth 100000 in
theorem k_X10_handler (Γ : mG) (l : Launch) (L : mI → Nat) (x : RS) (a : Int32) (b : Int32) (e2 : Int32) (g2 : Int32) (w2 : Int32) (n : Nat) (hn : x.1 0 = nI n) (h8 : n ≤ 8) (hm : Nat → Nat) (hhm : ∀ k, k < 8 → x.2.1 5 k = nI (hm k)) (hhm2 : ∀ k, k < 8 → hm k ≤ 6) : mMet Γ l yX10_handler cX10_handler 7 (some .int) { frames := 2, cells := 0, slots := 0, locals := 46 } [.ref (L (.inl 0)), .int a, .int b, .int e2, .int g2, .int w2] L (rM Γ L x) (mQi Γ (fun r L1 M1 => r = (r_handler x n hm a b e2 g2 w2).1 ∧ L1 = L ∧ M1 = rM Γ L (r_handler x n hm a b e2 g2 w2).2)) := by
  refine m_start (by decide) (Nat.le_of_ble_eq_true rfl) ?_
  intro p e s m args below meth c A ls X hr hlk hnm hw hS hl
  have hx := X.1.1
  have hb := X.1.2.1
  have hl : lv_has ls 7 [(0, .ref (L (.inl 0))), (1, .int a), (2, .int b), (3, .int e2), (4, .int g2), (5, .int w2)] := hl
  refine lv_aload_n hx hb dX10_handler_0 rfl (lv_at hl 0 rfl) ?_
  refine lv_iload_n hx hb dX10_handler_1 rfl (lv_at hl 1 rfl) ?_
  refine m_calli (m_runV (i := .inl 0) (ci := 8) (As := [.int a]) (rest := []) X (k_X10_isMethod Γ l L x a n hn h8) v_X10_isMethod ml_X10_130 hw hS rfl rfl rfl rfl hl.1 ⟨Nat.le_of_ble_eq_true rfl, Nat.le_of_ble_eq_true rfl⟩ (Nat.le_of_ble_eq_true rfl) ⟨Nat.le_of_ble_eq_true rfl, Nat.le_of_ble_eq_true rfl⟩ dX10_handler_2) hS (fun r_2 L1 M1 H locs hp_1 hw hS => ?_)
  obtain ⟨rfl, e1, e2⟩ := hp_1
  rw [e1, e2] at hw; clear e1 e2
  refine lv_if_eq (tgt := 49) hx hb dX10_handler_5 (by decide) (fun c_3 => ?_) (fun c_3 => ?_)
  · skip
    have c_3 := bI_f c_3
    refine lv_iconst (v := (-1)) hx hb dX10_handler_49 (by decide) ?_
    exact m_iret X hr hlk hw hS (Nat.zero_le _) (Nat.zero_le _) ⟨by clear hb hx hl hS hw hnm hlk hr X; first | rfl | (simp_all [bI, r_handler, r_hand4]; done) | (simp_all [bI, r_handler, r_hand4]; rfl), rfl, by clear hb hx hl hS hw hnm hlk hr X; first | rfl | (simp_all [bI, r_handler, r_hand4]; done) | (simp_all [bI, r_handler, r_hand4]; rfl)⟩ dX10_handler_50
  · skip
    have c_3 := bI_t c_3
    have c_30 := c_3
    obtain ⟨k_4, hk_k_4, rfl⟩ := isM_nat c_30
    have hc_k_4 : (nI k_4).toNatClampNeg = k_4 := nI_clamp (by omega)
    have hq_k_4 := hhm2 k_4 (by omega)
    refine lv_iload_n hx hb dX10_handler_8 rfl (lv_at hl 2 rfl) ?_
    refine lv_if_lt (tgt := 49) hx hb dX10_handler_9 (by decide) (fun c_5 => ?_) (fun c_5 => ?_)
    · skip
      refine lv_iconst (v := (-1)) hx hb dX10_handler_49 (by decide) ?_
      exact m_iret X hr hlk hw hS (Nat.zero_le _) (Nat.zero_le _) ⟨by clear hb hx hl hS hw hnm hlk hr X; first | rfl | (simp_all [bI, r_handler, r_hand4]; done) | (simp_all [bI, r_handler, r_hand4]; rfl), rfl, by clear hb hx hl hS hw hnm hlk hr X; first | rfl | (simp_all [bI, r_handler, r_hand4]; done) | (simp_all [bI, r_handler, r_hand4]; rfl)⟩ dX10_handler_50
    · skip
      refine lv_iload_n hx hb dX10_handler_12 rfl (lv_at hl 2 rfl) ?_
      refine lv_iload_n hx hb dX10_handler_13 rfl (lv_at hl 3 rfl) ?_
      refine lv_icmp_ge (tgt := 49) hx hb dX10_handler_14 (by decide) (fun c_6 => ?_) (fun c_6 => ?_)
      · skip
        refine lv_iconst (v := (-1)) hx hb dX10_handler_49 (by decide) ?_
        exact m_iret X hr hlk hw hS (Nat.zero_le _) (Nat.zero_le _) ⟨by clear hb hx hl hS hw hnm hlk hr X; first | rfl | (simp_all [bI, r_handler, r_hand4]; done) | (simp_all [bI, r_handler, r_hand4]; rfl), rfl, by clear hb hx hl hS hw hnm hlk hr X; first | rfl | (simp_all [bI, r_handler, r_hand4]; done) | (simp_all [bI, r_handler, r_hand4]; rfl)⟩ dX10_handler_50
      · skip
        refine lv_iload_n hx hb dX10_handler_17 rfl (lv_at hl 3 rfl) ?_
        refine lv_bipush (v := 40) hx hb dX10_handler_18 (by decide) ?_
        refine lv_icmp_gt (tgt := 49) hx hb dX10_handler_20 (by decide) (fun c_7 => ?_) (fun c_7 => ?_)
        · skip
          refine lv_iconst (v := (-1)) hx hb dX10_handler_49 (by decide) ?_
          exact m_iret X hr hlk hw hS (Nat.zero_le _) (Nat.zero_le _) ⟨by clear hb hx hl hS hw hnm hlk hr X; first | rfl | (simp_all [bI, r_handler, r_hand4]; done) | (simp_all [bI, r_handler, r_hand4]; rfl), rfl, by clear hb hx hl hS hw hnm hlk hr X; first | rfl | (simp_all [bI, r_handler, r_hand4]; done) | (simp_all [bI, r_handler, r_hand4]; rfl)⟩ dX10_handler_50
        · skip
          refine lv_iload hx hb dX10_handler_23 (lv_at hl 4 rfl) ?_
          refine lv_i2l (v := g2.toInt64) hx hb dX10_handler_25 rfl ?_
          refine lv_lconst (v := 0) hx hb dX10_handler_26 (by decide) ?_
          refine lv_ldc2 (v := (39)) hx hb X.1.2.2.2.1 (X.1.2.2.2.2 _ kl_X10_137) dX10_handler_27 ?_
          refine m_calli (m_runS (As := [.long g2.toInt64, .long 0, .long (39)]) (rest := []) X (k_X10_isIn Γ l L (rM Γ L x) g2.toInt64 0 (39)) s_X10_isIn ml_X10_79 hw hS rfl hl.1 ⟨Nat.le_of_ble_eq_true rfl, Nat.le_of_ble_eq_true rfl⟩ (Nat.le_of_ble_eq_true rfl) ⟨Nat.le_of_ble_eq_true rfl, Nat.le_of_ble_eq_true rfl⟩ dX10_handler_30) hS (fun r_9 L1 M1 H locs hp_8 hw hS => ?_)
          obtain ⟨rfl, e1, e2⟩ := hp_8
          rw [e1, e2] at hw; clear e1 e2
          refine lv_if_eq (tgt := 49) hx hb dX10_handler_33 (by decide) (fun c_10 => ?_) (fun c_10 => ?_)
          · skip
            have c_10 := bI_f c_10
            refine lv_iconst (v := (-1)) hx hb dX10_handler_49 (by decide) ?_
            exact m_iret X hr hlk hw hS (Nat.zero_le _) (Nat.zero_le _) ⟨by clear hb hx hl hS hw hnm hlk hr X; first | rfl | (simp_all [bI, r_handler, r_hand4]; done) | (simp_all [bI, r_handler, r_hand4]; rfl), rfl, by clear hb hx hl hS hw hnm hlk hr X; first | rfl | (simp_all [bI, r_handler, r_hand4]; done) | (simp_all [bI, r_handler, r_hand4]; rfl)⟩ dX10_handler_50
          · skip
            have c_10 := bI_t c_10
            refine lv_iload hx hb dX10_handler_36 (lv_at hl 5 rfl) ?_
            refine lv_i2l (v := w2.toInt64) hx hb dX10_handler_38 rfl ?_
            refine lv_lconst (v := 0) hx hb dX10_handler_39 (by decide) ?_
            refine lv_ldc2 (v := (7)) hx hb X.1.2.2.2.1 (X.1.2.2.2.2 _ kl_X10_139) dX10_handler_40 ?_
            refine m_calli (m_runS (As := [.long w2.toInt64, .long 0, .long (7)]) (rest := []) X (k_X10_isIn Γ l L (rM Γ L x) w2.toInt64 0 (7)) s_X10_isIn ml_X10_79 hw hS rfl hl.1 ⟨Nat.le_of_ble_eq_true rfl, Nat.le_of_ble_eq_true rfl⟩ (Nat.le_of_ble_eq_true rfl) ⟨Nat.le_of_ble_eq_true rfl, Nat.le_of_ble_eq_true rfl⟩ dX10_handler_43) hS (fun r_13 L1 M1 H locs hp_12 hw hS => ?_)
            obtain ⟨rfl, e1, e2⟩ := hp_12
            rw [e1, e2] at hw; clear e1 e2
            refine lv_if_ne (tgt := 51) hx hb dX10_handler_46 (by decide) (fun c_14 => ?_) (fun c_14 => ?_)
            · skip
              have c_14 := bI_t c_14
              refine lv_aload_n hx hb dX10_handler_51 rfl (lv_at hl 0 rfl) ?_
              refine r_get5 X hw dX10_handler_52 ?_
              refine lv_iload_n hx hb dX10_handler_55 rfl (lv_at hl 1 rfl) ?_
              refine r_ald5N X hw rfl (by omega) dX10_handler_56 ?_
              refine lv_bipush (v := 6) hx hb dX10_handler_57 (by decide) ?_
              refine lv_icmp_ne (tgt := 65) hx hb dX10_handler_59 (by decide) (fun c_16 => ?_) (fun c_16 => ?_)
              · skip
                have c_16n : ¬ (hm k_4) = 6 := nneT (a := hm k_4) (b := 6) (hhm _ (by omega)) rfl (by omega) (by omega) c_16
                refine lv_iconst (v := 4) hx hb dX10_handler_65 (by decide) ?_
                refine lv_bipush (v := 6) hx hb dX10_handler_66 (by decide) ?_
                refine lv_iload_n hx hb dX10_handler_68 rfl (lv_at hl 1 rfl) ?_
                refine lv_imul hx hb dX10_handler_69 ?_
                refine lv_aload_n hx hb dX10_handler_70 rfl (lv_at hl 0 rfl) ?_
                refine r_get5 X hw dX10_handler_71 ?_
                refine lv_iload_n hx hb dX10_handler_74 rfl (lv_at hl 1 rfl) ?_
                refine r_ald5N X hw rfl (by omega) dX10_handler_75 ?_
                refine lv_iadd hx hb dX10_handler_76 ?_
                refine lv_imul hx hb dX10_handler_77 ?_
                refine lv_istore (lv' := [(6, .int (4 * ((6 * (nI k_4)) + (x.2.1 5 k_4)))), (0, .ref (L (.inl 0))), (1, .int (nI k_4)), (2, .int b), (3, .int e2), (4, .int g2), (5, .int w2)]) hx hb dX10_handler_78 hl (by decide) rfl (fun ls hl => ?_)
                refine lv_aload_n hx hb dX10_handler_80 rfl (lv_at hl 1 rfl) ?_
                refine r_get6 X hw dX10_handler_81 ?_
                refine lv_iload hx hb dX10_handler_84 (lv_at hl 0 rfl) ?_
                refine lv_iload_n hx hb dX10_handler_86 rfl (lv_at hl 3 rfl) ?_
                refine r_ast6N X hw hS (nmul (a := 4) (b := (6 * k_4) + (hm k_4)) rfl (nadd (a := 6 * k_4) (b := hm k_4) (nmul (a := 6) (b := k_4) rfl rfl) (hhm _ (by omega)))) (by omega) dX10_handler_87 (fun H locs hw hS => ?_)
                refine lv_aload_n hx hb dX10_handler_88 rfl (lv_at hl 1 rfl) ?_
                refine r_get6 X hw dX10_handler_89 ?_
                refine lv_iload hx hb dX10_handler_92 (lv_at hl 0 rfl) ?_
                refine lv_iconst (v := 1) hx hb dX10_handler_94 (by decide) ?_
                refine lv_iadd hx hb dX10_handler_95 ?_
                refine lv_iload_n hx hb dX10_handler_96 rfl (lv_at hl 4 rfl) ?_
                refine r_ast6N X hw hS (nadd (a := 4 * ((6 * k_4) + (hm k_4))) (b := 1) (nmul (a := 4) (b := (6 * k_4) + (hm k_4)) rfl (nadd (a := 6 * k_4) (b := hm k_4) (nmul (a := 6) (b := k_4) rfl rfl) (hhm _ (by omega)))) rfl) (by omega) dX10_handler_97 (fun H locs hw hS => ?_)
                refine lv_aload_n hx hb dX10_handler_98 rfl (lv_at hl 1 rfl) ?_
                refine r_get6 X hw dX10_handler_99 ?_
                refine lv_iload hx hb dX10_handler_102 (lv_at hl 0 rfl) ?_
                refine lv_iconst (v := 2) hx hb dX10_handler_104 (by decide) ?_
                refine lv_iadd hx hb dX10_handler_105 ?_
                refine lv_iload hx hb dX10_handler_106 (lv_at hl 5 rfl) ?_
                refine r_ast6N X hw hS (nadd (a := 4 * ((6 * k_4) + (hm k_4))) (b := 2) (nmul (a := 4) (b := (6 * k_4) + (hm k_4)) rfl (nadd (a := 6 * k_4) (b := hm k_4) (nmul (a := 6) (b := k_4) rfl rfl) (hhm _ (by omega)))) rfl) (by omega) dX10_handler_108 (fun H locs hw hS => ?_)
                refine lv_aload_n hx hb dX10_handler_109 rfl (lv_at hl 1 rfl) ?_
                refine r_get6 X hw dX10_handler_110 ?_
                refine lv_iload hx hb dX10_handler_113 (lv_at hl 0 rfl) ?_
                refine lv_iconst (v := 3) hx hb dX10_handler_115 (by decide) ?_
                refine lv_iadd hx hb dX10_handler_116 ?_
                refine lv_iload hx hb dX10_handler_117 (lv_at hl 6 rfl) ?_
                refine r_ast6N X hw hS (nadd (a := 4 * ((6 * k_4) + (hm k_4))) (b := 3) (nmul (a := 4) (b := (6 * k_4) + (hm k_4)) rfl (nadd (a := 6 * k_4) (b := hm k_4) (nmul (a := 6) (b := k_4) rfl rfl) (hhm _ (by omega)))) rfl) (by omega) dX10_handler_119 (fun H locs hw hS => ?_)
                refine lv_aload_n hx hb dX10_handler_120 rfl (lv_at hl 1 rfl) ?_
                refine r_get5 X hw dX10_handler_121 ?_
                refine lv_iload_n hx hb dX10_handler_124 rfl (lv_at hl 2 rfl) ?_
                refine lv_dup2_11 hx hb dX10_handler_125 rfl rfl ?_
                refine r_ald5N X hw rfl (by omega) dX10_handler_126 ?_
                refine lv_iconst (v := 1) hx hb dX10_handler_127 (by decide) ?_
                refine lv_iadd hx hb dX10_handler_128 ?_
                refine lv_topi (fun v_17 ev_17 => ?_)
                obtain rfl : v_17 = nI ((hm k_4) + 1) := ev_17.trans (nadd (a := hm k_4) (b := 1) (hhm _ (by omega)) rfl)
                clear ev_17
                refine r_ast5N X hw hS rfl (by omega) dX10_handler_129 (fun H locs hw hS => ?_)
                refine lv_aload_n hx hb dX10_handler_130 rfl (lv_at hl 1 rfl) ?_
                refine lv_iload_n hx hb dX10_handler_131 rfl (lv_at hl 2 rfl) ?_
                refine m_callv (m_runV (i := .inl 0) (ci := 8) (As := [.int (nI k_4)]) (rest := []) X (k_X10_changed Γ l L (sA (sA (sA (sA (sA x 6 (4 * ((6 * k_4) + (hm k_4))) b) 6 ((4 * ((6 * k_4) + (hm k_4))) + 1) e2) 6 ((4 * ((6 * k_4) + (hm k_4))) + 2) g2) 6 ((4 * ((6 * k_4) + (hm k_4))) + 3) w2) 5 k_4 (nI ((hm k_4) + 1))) (nI k_4) k_4 rfl (by omega)) v_X10_changed ml_X10_133 hw hS rfl rfl rfl rfl hl.1 ⟨Nat.le_of_ble_eq_true rfl, Nat.le_of_ble_eq_true rfl⟩ (Nat.le_of_ble_eq_true rfl) ⟨Nat.le_of_ble_eq_true rfl, Nat.le_of_ble_eq_true rfl⟩ dX10_handler_132) hS (fun L1 M1 H locs hp_18 hw hS => ?_)
                obtain ⟨e1, e2⟩ := hp_18
                rw [e1, e2] at hw; clear e1 e2
                refine lv_aload_n hx hb dX10_handler_135 rfl (lv_at hl 1 rfl) ?_
                refine r_get5 X hw dX10_handler_136 ?_
                refine lv_iload_n hx hb dX10_handler_139 rfl (lv_at hl 2 rfl) ?_
                refine r_ald5N X hw rfl (by omega) dX10_handler_140 ?_
                refine lv_topi (fun v_20 ev_20 => ?_)
                obtain rfl : v_20 = nI (hm k_4 + 1) := ev_20.trans (by simp [sA, sJ, va_up, upd])
                clear ev_20
                exact m_iret X hr hlk hw hS (Nat.zero_le _) (Nat.zero_le _) ⟨by clear hb hx hl hS hw hnm hlk hr X; first | rfl | (simp_all [bI, r_handler, r_hand4]; done) | (simp_all [bI, r_handler, r_hand4]; rfl), rfl, by clear hb hx hl hS hw hnm hlk hr X; first | rfl | (simp_all [bI, r_handler, r_hand4]; done) | (simp_all [bI, r_handler, r_hand4]; rfl)⟩ dX10_handler_141
              · skip
                have c_16n : (hm k_4) = 6 := nneF (a := hm k_4) (b := 6) (hhm _ (by omega)) rfl (by omega) (by omega) c_16
                refine lv_bipush (v := (-3)) hx hb dX10_handler_62 (by decide) ?_
                exact m_iret X hr hlk hw hS (Nat.zero_le _) (Nat.zero_le _) ⟨by clear hb hx hl hS hw hnm hlk hr X; first | rfl | (simp_all [bI, r_handler, r_hand4]; done) | (simp_all [bI, r_handler, r_hand4]; rfl), rfl, by clear hb hx hl hS hw hnm hlk hr X; first | rfl | (simp_all [bI, r_handler, r_hand4]; done) | (simp_all [bI, r_handler, r_hand4]; rfl)⟩ dX10_handler_64
            · skip
              have c_14 := bI_f c_14
              refine lv_iconst (v := (-1)) hx hb dX10_handler_49 (by decide) ?_
              exact m_iret X hr hlk hw hS (Nat.zero_le _) (Nat.zero_le _) ⟨by clear hb hx hl hS hw hnm hlk hr X; first | rfl | (simp_all [bI, r_handler, r_hand4]; done) | (simp_all [bI, r_handler, r_hand4]; rfl), rfl, by clear hb hx hl hS hw hnm hlk hr X; first | rfl | (simp_all [bI, r_handler, r_hand4]; done) | (simp_all [bI, r_handler, r_hand4]; rfl)⟩ dX10_handler_50
