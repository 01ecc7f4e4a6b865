/-! THE CLASS'S FACE, by shape -/
def opC (x : CS) (cm k : Nat) (w : Int32) (v : Int64) : CS := tS (tS (tJ (tV x (cm + 2) 1 k w) (cm + 2) 2 k v) (cm + 2) 0 11 0) (cm + 2) 0 4 (nI (k + 1))
def hdC (x : CS) (cm k : Nat) (f t w y : Int32) : CS := tS (tS (tV (tV (tV (tV x (cm + 2) 3 k f) (cm + 2) 4 k t) (cm + 2) 5 k w) (cm + 2) 6 k y) (cm + 2) 0 11 0) (cm + 2) 0 9 (nI (k + 1))
def hOK (b d f g : Int32) : Prop := ¬ b < 0 ∧ b < d ∧ d ≤ 40 ∧ ¬ f < 0 ∧ f < 40 ∧ ¬ g < 0 ∧ g ≤ 7
def kz (c c1 : CS) : Prop := cN c1 = cN c ∧ ∀ m k, k ≠ 11 → c1.1 (m + 2) 0 k = c.1 (m + 2) 0 k
def sPost (Γ : mG) (L : mI → Nat) (c : CS) (a b d f r : Int32) (L1 : mI → Nat) (M1 : mM) : Prop := L1 = L ∧ ((r = -1 ∧ M1 = cM Γ L c ∧ (¬ (0 ≤ a.toInt ∧ a.toInt < cN c) ∨ ∃ cm, cm < cN c ∧ a = nI cm ∧ ((b < 0 ∨ 40 ≤ b ∨ ∃ n, n < 40 ∧ b = nI n ∧ (cF c cm n = true → c.1 (cm + 2) (2 * n + 8) 1 = -1)) ∨ ∃ n dn, n < 40 ∧ b = nI n ∧ cF c cm n = true ∧ dn ≤ 8 ∧ c.1 (cm + 2) (2 * n + 8) 1 = nI dn ∧ (p_has (nI dn) d = false ∨ k_kind f = false)))) ∨ ∃ cm kn dn pn, cm < cN c ∧ a = nI cm ∧ kn < 40 ∧ b = nI kn ∧ cF c cm kn = true ∧ dn ≤ 8 ∧ c.1 (cm + 2) (2 * kn + 8) 1 = nI dn ∧ pn < 8 + dn ∧ d = nI pn ∧ k_kind f = true ∧ r = c.2.1 (cm + 2) (2 * kn + 9) pn ∧ M1 = cM Γ L (sP (tS c (cm + 2) 0 11 0) (cm + 2) (2 * kn + 8) (upd (c.2.1 (cm + 2) (2 * kn + 9)) pn f, dn)))
theorem kp.z {c c1 : CS} (h : kp c c1) : kz c c1 := ⟨h.1, fun m k hk => (h.2.2 (m + 2) 0 (by omega)).2.2 k (by omega)⟩
theorem kz.putP {c c1 : CS} {a b : Nat} {q : PL} (h : kz c c1) (hb : 0 < b) : kz c (sP c1 a b q) := ⟨h.1, fun m k hk => (sP_rdS (by omega)).trans (h.2 m k hk)⟩
theorem i2l_eq {a : Int32} {k : Nat} (h : a.toInt64 = (nI k).toInt64) (hk : k < 8) : a = nI k := by
  apply Int32.toInt_inj.mp
  have e := congrArg Int64.toInt h
  rw [i64_toInt, i64_toInt] at e
  exact e
theorem dOK_m {d : Int32} (h1 : -1 ≤ d) (h2 : d ≤ 8) : dOK d := by
  rw [Int32.le_iff_toInt_le] at h1 h2
  have e1 : (-1 : Int32).toInt = -1 := by decide
  have e8 : (8 : Int32).toInt = 8 := by decide
  by_cases z : d.toInt = -1
  · exact Or.inl (Int32.toInt_inj.mp (by rw [e1]; exact z))
  · obtain ⟨e, -⟩ := nat_of_toInt (a := d) (by omega)
    exact Or.inr ⟨_, by omega, e⟩
theorem v_X9_method : mVm yX9_method cX9_method 2 (some .int) 1 := ⟨cd_X9_method, im_X9_method, se_X9_method, ini_X9, by decide, by decide, by decide +kernel⟩
set_option maxHeartbeats 4000000 in
set_option maxRecDepth 100000 in
theorem k_X9_method (Γ : mG) (l : Launch) (L : mI → Nat) (x : CS) (a : Int32) (hI : CInv x) : mMet Γ l yX9_method cX9_method 2 (some .int) { frames := 3, cells := 8, slots := 156, locals := 55 } [.ref (L (nm 0 0)), .int a] L (cM Γ L x) (mQi Γ (fun r L1 M1 => (r = -1 ∧ (a < 0 ∨ ¬ a ≤ 4) ∧ L1 = L ∧ M1 = cM Γ L x) ∨ ((¬ a < 0 ∧ a ≤ 4) ∧ ((cN x = 8 ∧ r = -3 ∧ L1 = L ∧ M1 = cM Γ L x) ∨ (cN x < 8 ∧ r = nI (cN x) ∧ (∀ u w, u ≠ cN x + 2 → L1 (nm u w) = L (nm u w)) ∧ M1 = cM Γ L1 (addC x a)))))) := by
  refine m_start (by decide) (Nat.le_of_ble_eq_true rfl) ?_
  intro p e s m args below meth c A ls X hr hlk hnm hw hS hl
  have hx := X.1.1
  have hb := X.1.2.1
  have hl : lv_has ls 2 [(0, .ref (L (nm 0 0))), (1, .int a)] := hl
  have hk : kp x x := kp.rf
  refine lv_iload_n hx hb dX9_method_0 rfl (lv_at hl 1 rfl) ?_
  refine lv_if_lt (tgt := 9) hx hb dX9_method_1 (by decide) (fun c_1 => ?_) (fun c_1 => ?_)
  · skip
    refine lv_iconst (v := (-1)) hx hb dX9_method_9 (by decide) ?_
    exact m_iret X hr hlk hw hS (Nat.le_of_ble_eq_true rfl) (Nat.le_of_ble_eq_true rfl) (Or.inl ⟨rfl, by first | exact Or.inl (by assumption) | exact Or.inr (by assumption), rfl, rfl⟩) dX9_method_10
  · skip
    refine lv_iload_n hx hb dX9_method_4 rfl (lv_at hl 1 rfl) ?_
    refine lv_iconst (v := 4) hx hb dX9_method_5 (by decide) ?_
    refine lv_icmp_le (tgt := 11) hx hb dX9_method_6 (by decide) (fun c_2 => ?_) (fun c_2 => ?_)
    · skip
      refine lv_aload_n hx hb dX9_method_11 rfl (lv_at hl 0 rfl) ?_
      refine s_get (a := 0) (b := 0) (ci := 7) X hw rfl rfl gX9 0 (by decide) fl_X9_10 rfl rfl dX9_method_12 ?_
      refine lv_iload_n hx hb dX9_method_15 rfl (lv_at hl 1 rfl) ?_
      refine m_calli (m_runV (i := nm 0 1) (ci := 5) (As := [.int a]) (rest := []) X (k_X7_add Γ l L x a hI) v_X7_add ml_X9_30 hw hS rfl rfl rfl rfl hl.1 ⟨Nat.le_of_ble_eq_true rfl, Nat.le_of_ble_eq_true rfl⟩ (Nat.le_of_ble_eq_true rfl) ⟨Nat.le_of_ble_eq_true rfl, Nat.le_of_ble_eq_true rfl⟩ dX9_method_16) hS (fun r_3 L1 M1 H locs hp_3 hw hS => ?_)
      exact m_iret X hr hlk hw hS (Nat.le_of_ble_eq_true rfl) (Nat.le_of_ble_eq_true rfl) (Or.inr ⟨⟨by assumption, by assumption⟩, hp_3⟩) dX9_method_19
    · skip
      refine lv_iconst (v := (-1)) hx hb dX9_method_9 (by decide) ?_
      exact m_iret X hr hlk hw hS (Nat.le_of_ble_eq_true rfl) (Nat.le_of_ble_eq_true rfl) (Or.inl ⟨rfl, by first | exact Or.inl (by assumption) | exact Or.inr (by assumption), rfl, rfl⟩) dX9_method_10
theorem v_X9_op : mVm yX9_op cX9_op 6 (some .int) 3 := ⟨cd_X9_op, im_X9_op, se_X9_op, ini_X9, by decide, by decide, by decide +kernel⟩
set_option maxHeartbeats 4000000 in
set_option maxRecDepth 100000 in
theorem k_X9_op (Γ : mG) (l : Launch) (L : mI → Nat) (x : CS) (a : Int32) (b : Int32) (v : Int64) (hI : CInv x) : mMet Γ l yX9_op cX9_op 6 (some .int) { frames := 1, cells := 0, slots := 0, locals := 23 } [.ref (L (nm 0 0)), .int a, .int b, .long v] L (cM Γ L x) (mQi Γ (fun r L1 M1 => L1 = L ∧ ((r = -1 ∧ ¬ (0 ≤ a.toInt ∧ a.toInt < cN x) ∧ M1 = cM Γ L x) ∨ ∃ cm, cm < cN x ∧ a = nI cm ∧ ∃ k, k ≤ 40 ∧ x.1 (cm + 2) 0 4 = nI k ∧ ((k = 40 ∧ r = -3 ∧ M1 = cM Γ L x) ∨ (k < 40 ∧ r = nI k ∧ M1 = cM Γ L (opC x cm k b v)))))) := by
  refine m_start (by decide) (Nat.le_of_ble_eq_true rfl) ?_
  intro p e s m args below meth c A ls X hr hlk hnm hw hS hl
  have hx := X.1.1
  have hb := X.1.2.1
  have hl : lv_has ls 6 [(0, .ref (L (nm 0 0))), (1, .int a), (2, .int b), (3, .long v)] := hl
  have hk : kp x x := kp.rf
  refine lv_aload_n hx hb dX9_op_0 rfl (lv_at hl 0 rfl) ?_
  refine s_get (a := 0) (b := 0) (ci := 7) X hw rfl rfl gX9 0 (by decide) fl_X9_10 rfl rfl dX9_op_1 ?_
  refine lv_iload_n hx hb dX9_op_4 rfl (lv_at hl 1 rfl) ?_
  refine lv_i2l (v := a.toInt64) hx hb dX9_op_5 rfl ?_
  refine m_callq (m_runV (i := nm 0 1) (ci := 5) (As := [.long a.toInt64]) (rest := []) X (k_X7_at Γ l L x a.toInt64 hI.1) v_X7_at ml_X9_34 hw hS rfl rfl rfl rfl hl.1 ⟨Nat.le_of_ble_eq_true rfl, Nat.le_of_ble_eq_true rfl⟩ (Nat.le_of_ble_eq_true rfl) ⟨Nat.le_of_ble_eq_true rfl, Nat.le_of_ble_eq_true rfl⟩ dX9_op_6) hS (fun r_1 L1 M1 H locs hp_1 hw hS => ?_)
  obtain ⟨e1, e2, hq_1⟩ := hp_1
  rw [e1, e2] at hw; clear e1 e2
  rcases hq_1 with ⟨rfl, hno_1⟩ | ⟨k_1, hk_1, ev_1, rfl⟩
  · skip
    refine va_rf_none ?_
    refine lv_astoreN (lv' := [(5, .null), (0, .ref (L (nm 0 0))), (1, .int a), (2, .int b), (3, .long v)]) hx hb dX9_op_9 hl (by decide) rfl (fun ls hl => ?_)
    refine lv_aloadN hx hb dX9_op_11 (lv_at hl 0 rfl) ?_
    refine lv_ifnonnullN hx hb dX9_op_13 ?_
    refine lv_iconst (v := (-1)) hx hb dX9_op_16 (by decide) ?_
    exact m_iret X hr hlk hw hS (Nat.le_of_ble_eq_true rfl) (Nat.le_of_ble_eq_true rfl) ⟨rfl, Or.inl ⟨rfl, by rw [i64_toInt] at hno_1; exact hno_1, rfl⟩⟩ dX9_op_17
  · skip
    refine va_rf_some ?_
    have hx_1 : k_1 < cN x := hk.bk hk_1
    have ea_1 := i2l_eq ev_1 (by have := hI.1; omega)
    refine lv_astore (lv' := [(5, .ref (L (nm (k_1 + 2) 0))), (0, .ref (L (nm 0 0))), (1, .int a), (2, .int b), (3, .long v)]) hx hb dX9_op_9 hl (by decide) rfl (fun ls hl => ?_)
    refine lv_aload hx hb dX9_op_11 (lv_at hl 0 rfl) ?_
    refine lv_ifnonnull (tgt := 18) hx hb dX9_op_13 (by decide) ?_
    refine lv_aload hx hb dX9_op_18 (lv_at hl 0 rfl) ?_
    refine lv_iload_n hx hb dX9_op_20 rfl (lv_at hl 3 rfl) ?_
    refine lv_lload_n hx hb dX9_op_21 rfl (lv_at hl 4 rfl) ?_
    refine m_calli (m_runV (i := nm (k_1 + 2) 0) (ci := 0) (As := [.int b, .long v]) (rest := []) X (k_X0_addInstruction Γ l L x k_1 b v hI (hk.lt hx_1)) v_X0_addInstruction ml_X9_38 hw hS (c_cell (hk.lt hx_1) 0 _ _ _) rfl rfl rfl hl.1 ⟨Nat.le_of_ble_eq_true rfl, Nat.le_of_ble_eq_true rfl⟩ (Nat.le_of_ble_eq_true rfl) ⟨Nat.le_of_ble_eq_true rfl, Nat.le_of_ble_eq_true rfl⟩ dX9_op_22) hS (fun r_2 L1 M1 H locs hp_2 hw hS => ?_)
    obtain ⟨k, hk40, ek, e1, h⟩ := hp_2
    exact m_iret X hr hlk hw hS (Nat.le_of_ble_eq_true rfl) (Nat.le_of_ble_eq_true rfl) ⟨e1, Or.inr ⟨k_1, hx_1, ea_1, k, hk40, ek, h⟩⟩ dX9_op_25
theorem v_X9_handler : mVm yX9_handler cX9_handler 7 (some .int) 5 := ⟨cd_X9_handler, im_X9_handler, se_X9_handler, ini_X9, by decide, by decide, by decide +kernel⟩
set_option maxHeartbeats 4000000 in
set_option maxRecDepth 100000 in
theorem k_X9_handler (Γ : mG) (l : Launch) (L : mI → Nat) (x : CS) (a : Int32) (b : Int32) (d : Int32) (f : Int32) (g : Int32) (hI : CInv x) : mMet Γ l yX9_handler cX9_handler 7 (some .int) { frames := 1, cells := 0, slots := 0, locals := 24 } [.ref (L (nm 0 0)), .int a, .int b, .int d, .int f, .int g] L (cM Γ L x) (mQi Γ (fun r L1 M1 => L1 = L ∧ ((r = -1 ∧ (¬ (0 ≤ a.toInt ∧ a.toInt < cN x) ∨ ¬ hOK b d f g) ∧ M1 = cM Γ L x) ∨ ∃ cm, cm < cN x ∧ a = nI cm ∧ hOK b d f g ∧ ∃ k, k ≤ 6 ∧ x.1 (cm + 2) 0 9 = nI k ∧ ((k = 6 ∧ r = -3 ∧ M1 = cM Γ L x) ∨ (k < 6 ∧ r = nI (k + 1) ∧ M1 = cM Γ L (hdC x cm k b d f g)))))) := by
  refine m_start (by decide) (Nat.le_of_ble_eq_true rfl) ?_
  intro p e s m args below meth c A ls X hr hlk hnm hw hS hl
  have hx := X.1.1
  have hb := X.1.2.1
  have hl : lv_has ls 7 [(0, .ref (L (nm 0 0))), (1, .int a), (2, .int b), (3, .int d), (4, .int f), (5, .int g)] := hl
  have hk : kp x x := kp.rf
  refine lv_aload_n hx hb dX9_handler_0 rfl (lv_at hl 0 rfl) ?_
  refine s_get (a := 0) (b := 0) (ci := 7) X hw rfl rfl gX9 0 (by decide) fl_X9_10 rfl rfl dX9_handler_1 ?_
  refine lv_iload_n hx hb dX9_handler_4 rfl (lv_at hl 1 rfl) ?_
  refine lv_i2l (v := a.toInt64) hx hb dX9_handler_5 rfl ?_
  refine m_callq (m_runV (i := nm 0 1) (ci := 5) (As := [.long a.toInt64]) (rest := []) X (k_X7_at Γ l L x a.toInt64 hI.1) v_X7_at ml_X9_34 hw hS rfl rfl rfl rfl hl.1 ⟨Nat.le_of_ble_eq_true rfl, Nat.le_of_ble_eq_true rfl⟩ (Nat.le_of_ble_eq_true rfl) ⟨Nat.le_of_ble_eq_true rfl, Nat.le_of_ble_eq_true rfl⟩ dX9_handler_6) hS (fun r_1 L1 M1 H locs hp_1 hw hS => ?_)
  obtain ⟨e1, e2, hq_1⟩ := hp_1
  rw [e1, e2] at hw; clear e1 e2
  rcases hq_1 with ⟨rfl, hno_1⟩ | ⟨k_1, hk_1, ev_1, rfl⟩
  · skip
    refine va_rf_none ?_
    refine lv_astoreN (lv' := [(6, .null), (0, .ref (L (nm 0 0))), (1, .int a), (2, .int b), (3, .int d), (4, .int f), (5, .int g)]) hx hb dX9_handler_9 hl (by decide) rfl (fun ls hl => ?_)
    refine lv_aloadN hx hb dX9_handler_11 (lv_at hl 0 rfl) ?_
    refine lv_ifnullN (tgt := 31) hx hb dX9_handler_13 (by decide) ?_
    refine lv_iconst (v := (-1)) hx hb dX9_handler_31 (by decide) ?_
    exact m_iret X hr hlk hw hS (Nat.le_of_ble_eq_true rfl) (Nat.le_of_ble_eq_true rfl) ⟨rfl, Or.inl ⟨rfl, Or.inl (by rw [i64_toInt] at hno_1; exact hno_1), rfl⟩⟩ dX9_handler_32
  · skip
    refine va_rf_some ?_
    have hx_1 : k_1 < cN x := hk.bk hk_1
    have ea_1 := i2l_eq ev_1 (by have := hI.1; omega)
    refine lv_astore (lv' := [(6, .ref (L (nm (k_1 + 2) 0))), (0, .ref (L (nm 0 0))), (1, .int a), (2, .int b), (3, .int d), (4, .int f), (5, .int g)]) hx hb dX9_handler_9 hl (by decide) rfl (fun ls hl => ?_)
    refine lv_aload hx hb dX9_handler_11 (lv_at hl 0 rfl) ?_
    refine lv_ifnull hx hb dX9_handler_13 ?_
    refine lv_iload_n hx hb dX9_handler_16 rfl (lv_at hl 3 rfl) ?_
    refine lv_if_lt (tgt := 31) hx hb dX9_handler_17 (by decide) (fun c_2 => ?_) (fun c_2 => ?_)
    · skip
      refine lv_iconst (v := (-1)) hx hb dX9_handler_31 (by decide) ?_
      exact m_iret X hr hlk hw hS (Nat.le_of_ble_eq_true rfl) (Nat.le_of_ble_eq_true rfl) ⟨rfl, Or.inl ⟨rfl, Or.inr (fun z => by obtain ⟨z1, z2, z3, z4, z5, z6, z7⟩ := z; first | exact absurd (by assumption) z1 | exact absurd z2 (Int32.not_lt.mpr (by assumption)) | exact absurd z3 (by assumption) | exact absurd (by assumption) z4 | exact absurd z5 (Int32.not_lt.mpr (by assumption)) | exact absurd (by assumption) z6 | exact absurd z7 (by assumption)), rfl⟩⟩ dX9_handler_32
    · skip
      refine lv_iload_n hx hb dX9_handler_20 rfl (lv_at hl 3 rfl) ?_
      refine lv_iload_n hx hb dX9_handler_21 rfl (lv_at hl 4 rfl) ?_
      refine lv_icmp_ge (tgt := 31) hx hb dX9_handler_22 (by decide) (fun c_3 => ?_) (fun c_3 => ?_)
      · skip
        refine lv_iconst (v := (-1)) hx hb dX9_handler_31 (by decide) ?_
        exact m_iret X hr hlk hw hS (Nat.le_of_ble_eq_true rfl) (Nat.le_of_ble_eq_true rfl) ⟨rfl, Or.inl ⟨rfl, Or.inr (fun z => by obtain ⟨z1, z2, z3, z4, z5, z6, z7⟩ := z; first | exact absurd (by assumption) z1 | exact absurd z2 (Int32.not_lt.mpr (by assumption)) | exact absurd z3 (by assumption) | exact absurd (by assumption) z4 | exact absurd z5 (Int32.not_lt.mpr (by assumption)) | exact absurd (by assumption) z6 | exact absurd z7 (by assumption)), rfl⟩⟩ dX9_handler_32
      · skip
        refine lv_iload_n hx hb dX9_handler_25 rfl (lv_at hl 4 rfl) ?_
        refine lv_bipush (v := 40) hx hb dX9_handler_26 (by decide) ?_
        refine lv_icmp_le (tgt := 33) hx hb dX9_handler_28 (by decide) (fun c_4 => ?_) (fun c_4 => ?_)
        · skip
          refine lv_iload hx hb dX9_handler_33 (lv_at hl 5 rfl) ?_
          refine lv_if_lt (tgt := 57) hx hb dX9_handler_35 (by decide) (fun c_5 => ?_) (fun c_5 => ?_)
          · skip
            refine lv_iconst (v := (-1)) hx hb dX9_handler_57 (by decide) ?_
            exact m_iret X hr hlk hw hS (Nat.le_of_ble_eq_true rfl) (Nat.le_of_ble_eq_true rfl) ⟨rfl, Or.inl ⟨rfl, Or.inr (fun z => by obtain ⟨z1, z2, z3, z4, z5, z6, z7⟩ := z; first | exact absurd (by assumption) z1 | exact absurd z2 (Int32.not_lt.mpr (by assumption)) | exact absurd z3 (by assumption) | exact absurd (by assumption) z4 | exact absurd z5 (Int32.not_lt.mpr (by assumption)) | exact absurd (by assumption) z6 | exact absurd z7 (by assumption)), rfl⟩⟩ dX9_handler_58
          · skip
            refine lv_iload hx hb dX9_handler_38 (lv_at hl 5 rfl) ?_
            refine lv_bipush (v := 40) hx hb dX9_handler_40 (by decide) ?_
            refine lv_icmp_ge (tgt := 57) hx hb dX9_handler_42 (by decide) (fun c_6 => ?_) (fun c_6 => ?_)
            · skip
              refine lv_iconst (v := (-1)) hx hb dX9_handler_57 (by decide) ?_
              exact m_iret X hr hlk hw hS (Nat.le_of_ble_eq_true rfl) (Nat.le_of_ble_eq_true rfl) ⟨rfl, Or.inl ⟨rfl, Or.inr (fun z => by obtain ⟨z1, z2, z3, z4, z5, z6, z7⟩ := z; first | exact absurd (by assumption) z1 | exact absurd z2 (Int32.not_lt.mpr (by assumption)) | exact absurd z3 (by assumption) | exact absurd (by assumption) z4 | exact absurd z5 (Int32.not_lt.mpr (by assumption)) | exact absurd (by assumption) z6 | exact absurd z7 (by assumption)), rfl⟩⟩ dX9_handler_58
            · skip
              refine lv_iload hx hb dX9_handler_45 (lv_at hl 6 rfl) ?_
              refine lv_if_lt (tgt := 57) hx hb dX9_handler_47 (by decide) (fun c_7 => ?_) (fun c_7 => ?_)
              · skip
                refine lv_iconst (v := (-1)) hx hb dX9_handler_57 (by decide) ?_
                exact m_iret X hr hlk hw hS (Nat.le_of_ble_eq_true rfl) (Nat.le_of_ble_eq_true rfl) ⟨rfl, Or.inl ⟨rfl, Or.inr (fun z => by obtain ⟨z1, z2, z3, z4, z5, z6, z7⟩ := z; first | exact absurd (by assumption) z1 | exact absurd z2 (Int32.not_lt.mpr (by assumption)) | exact absurd z3 (by assumption) | exact absurd (by assumption) z4 | exact absurd z5 (Int32.not_lt.mpr (by assumption)) | exact absurd (by assumption) z6 | exact absurd z7 (by assumption)), rfl⟩⟩ dX9_handler_58
              · skip
                refine lv_iload hx hb dX9_handler_50 (lv_at hl 6 rfl) ?_
                refine lv_bipush (v := 7) hx hb dX9_handler_52 (by decide) ?_
                refine lv_icmp_le (tgt := 59) hx hb dX9_handler_54 (by decide) (fun c_8 => ?_) (fun c_8 => ?_)
                · skip
                  refine lv_aload hx hb dX9_handler_59 (lv_at hl 0 rfl) ?_
                  refine lv_iload_n hx hb dX9_handler_61 rfl (lv_at hl 3 rfl) ?_
                  refine lv_iload_n hx hb dX9_handler_62 rfl (lv_at hl 4 rfl) ?_
                  refine lv_iload hx hb dX9_handler_63 (lv_at hl 5 rfl) ?_
                  refine lv_iload hx hb dX9_handler_65 (lv_at hl 6 rfl) ?_
                  refine m_calli (m_runV (i := nm (k_1 + 2) 0) (ci := 0) (As := [.int b, .int d, .int f, .int g]) (rest := []) X (k_X0_addHandler Γ l L x k_1 b d f g hI (hk.lt hx_1)) v_X0_addHandler ml_X9_44 hw hS (c_cell (hk.lt hx_1) 0 _ _ _) rfl rfl rfl hl.1 ⟨Nat.le_of_ble_eq_true rfl, Nat.le_of_ble_eq_true rfl⟩ (Nat.le_of_ble_eq_true rfl) ⟨Nat.le_of_ble_eq_true rfl, Nat.le_of_ble_eq_true rfl⟩ dX9_handler_67) hS (fun r_9 L1 M1 H locs hp_9 hw hS => ?_)
                  obtain ⟨k, hk40, ek, e1, h⟩ := hp_9
                  exact m_iret X hr hlk hw hS (Nat.le_of_ble_eq_true rfl) (Nat.le_of_ble_eq_true rfl) ⟨e1, Or.inr ⟨k_1, hx_1, ea_1, ⟨by assumption, Int32.not_le.mp (by assumption), by assumption, by assumption, Int32.not_le.mp (by assumption), by assumption, by assumption⟩, k, hk40, ek, h⟩⟩ dX9_handler_70
                · skip
                  refine lv_iconst (v := (-1)) hx hb dX9_handler_57 (by decide) ?_
                  exact m_iret X hr hlk hw hS (Nat.le_of_ble_eq_true rfl) (Nat.le_of_ble_eq_true rfl) ⟨rfl, Or.inl ⟨rfl, Or.inr (fun z => by obtain ⟨z1, z2, z3, z4, z5, z6, z7⟩ := z; first | exact absurd (by assumption) z1 | exact absurd z2 (Int32.not_lt.mpr (by assumption)) | exact absurd z3 (by assumption) | exact absurd (by assumption) z4 | exact absurd z5 (Int32.not_lt.mpr (by assumption)) | exact absurd (by assumption) z6 | exact absurd z7 (by assumption)), rfl⟩⟩ dX9_handler_58
        · skip
          refine lv_iconst (v := (-1)) hx hb dX9_handler_31 (by decide) ?_
          exact m_iret X hr hlk hw hS (Nat.le_of_ble_eq_true rfl) (Nat.le_of_ble_eq_true rfl) ⟨rfl, Or.inl ⟨rfl, Or.inr (fun z => by obtain ⟨z1, z2, z3, z4, z5, z6, z7⟩ := z; first | exact absurd (by assumption) z1 | exact absurd z2 (Int32.not_lt.mpr (by assumption)) | exact absurd z3 (by assumption) | exact absurd (by assumption) z4 | exact absurd z5 (Int32.not_lt.mpr (by assumption)) | exact absurd (by assumption) z6 | exact absurd z7 (by assumption)), rfl⟩⟩ dX9_handler_32
theorem v_X9_frame : mVm yX9_frame cX9_frame 5 (some .int) 3 := ⟨cd_X9_frame, im_X9_frame, se_X9_frame, ini_X9, by decide, by decide, by decide +kernel⟩
set_option maxHeartbeats 4000000 in
set_option maxRecDepth 100000 in
theorem k_X9_frame (Γ : mG) (l : Launch) (L : mI → Nat) (x : CS) (a : Int32) (b : Int32) (d : Int32) (hI : CInv x) : mMet Γ l yX9_frame cX9_frame 5 (some .int) { frames := 3, cells := 2, slots := 18, locals := 54 } [.ref (L (nm 0 0)), .int a, .int b, .int d] L (cM Γ L x) (mQi Γ (fun r L1 M1 => (r = -1 ∧ (¬ (0 ≤ a.toInt ∧ a.toInt < cN x) ∨ ¬ (¬ b < 0 ∧ b < 40 ∧ ¬ d < -1 ∧ d ≤ 8)) ∧ L1 = L ∧ M1 = cM Γ L x) ∨ (r = 0 ∧ ∃ cm kn g, cm < cN x ∧ a = nI cm ∧ kn < 40 ∧ b = nI kn ∧ dOK d ∧ (∀ i, i < 16 → g i = 0) ∧ (∀ u w, ¬ (u = cm + 2 ∧ (w = 2 * kn + 8 ∨ w = 2 * kn + 9)) → L1 (nm u w) = L (nm u w)) ∧ M1 = cM Γ L1 (frC x cm kn d g)))) := by
  refine m_start (by decide) (Nat.le_of_ble_eq_true rfl) ?_
  intro p e s m args below meth c A ls X hr hlk hnm hw hS hl
  have hx := X.1.1
  have hb := X.1.2.1
  have hl : lv_has ls 5 [(0, .ref (L (nm 0 0))), (1, .int a), (2, .int b), (3, .int d)] := hl
  have hk : kp x x := kp.rf
  refine lv_aload_n hx hb dX9_frame_0 rfl (lv_at hl 0 rfl) ?_
  refine s_get (a := 0) (b := 0) (ci := 7) X hw rfl rfl gX9 0 (by decide) fl_X9_10 rfl rfl dX9_frame_1 ?_
  refine lv_iload_n hx hb dX9_frame_4 rfl (lv_at hl 1 rfl) ?_
  refine lv_i2l (v := a.toInt64) hx hb dX9_frame_5 rfl ?_
  refine m_callq (m_runV (i := nm 0 1) (ci := 5) (As := [.long a.toInt64]) (rest := []) X (k_X7_at Γ l L x a.toInt64 hI.1) v_X7_at ml_X9_34 hw hS rfl rfl rfl rfl hl.1 ⟨Nat.le_of_ble_eq_true rfl, Nat.le_of_ble_eq_true rfl⟩ (Nat.le_of_ble_eq_true rfl) ⟨Nat.le_of_ble_eq_true rfl, Nat.le_of_ble_eq_true rfl⟩ dX9_frame_6) hS (fun r_1 L1 M1 H locs hp_1 hw hS => ?_)
  obtain ⟨e1, e2, hq_1⟩ := hp_1
  rw [e1, e2] at hw; clear e1 e2
  rcases hq_1 with ⟨rfl, hno_1⟩ | ⟨k_1, hk_1, ev_1, rfl⟩
  · skip
    refine va_rf_none ?_
    refine lv_astoreN (lv' := [(4, .null), (0, .ref (L (nm 0 0))), (1, .int a), (2, .int b), (3, .int d)]) hx hb dX9_frame_9 hl (by decide) rfl (fun ls hl => ?_)
    refine lv_aloadN hx hb dX9_frame_11 (lv_at hl 0 rfl) ?_
    refine lv_ifnullN (tgt := 26) hx hb dX9_frame_13 (by decide) ?_
    refine lv_iconst (v := (-1)) hx hb dX9_frame_26 (by decide) ?_
    exact m_iret X hr hlk hw hS (Nat.le_of_ble_eq_true rfl) (Nat.le_of_ble_eq_true rfl) (Or.inl ⟨rfl, Or.inl (by rw [i64_toInt] at hno_1; exact hno_1), rfl, rfl⟩) dX9_frame_27
  · skip
    refine va_rf_some ?_
    have hx_1 : k_1 < cN x := hk.bk hk_1
    have ea_1 := i2l_eq ev_1 (by have := hI.1; omega)
    refine lv_astore (lv' := [(4, .ref (L (nm (k_1 + 2) 0))), (0, .ref (L (nm 0 0))), (1, .int a), (2, .int b), (3, .int d)]) hx hb dX9_frame_9 hl (by decide) rfl (fun ls hl => ?_)
    refine lv_aload hx hb dX9_frame_11 (lv_at hl 0 rfl) ?_
    refine lv_ifnull hx hb dX9_frame_13 ?_
    refine lv_iload_n hx hb dX9_frame_16 rfl (lv_at hl 3 rfl) ?_
    refine lv_if_lt (tgt := 26) hx hb dX9_frame_17 (by decide) (fun c_2 => ?_) (fun c_2 => ?_)
    · skip
      refine lv_iconst (v := (-1)) hx hb dX9_frame_26 (by decide) ?_
      exact m_iret X hr hlk hw hS (Nat.le_of_ble_eq_true rfl) (Nat.le_of_ble_eq_true rfl) (Or.inl ⟨rfl, Or.inr (fun z => by obtain ⟨z1, z2, z3, z4⟩ := z; first | exact absurd (by assumption) z1 | exact absurd z2 (by assumption) | exact absurd (by assumption) z3 | exact absurd z4 (by assumption)), rfl, rfl⟩) dX9_frame_27
    · skip
      refine lv_iload_n hx hb dX9_frame_20 rfl (lv_at hl 3 rfl) ?_
      refine lv_bipush (v := 40) hx hb dX9_frame_21 (by decide) ?_
      refine lv_icmp_lt (tgt := 28) hx hb dX9_frame_23 (by decide) (fun c_3 => ?_) (fun c_3 => ?_)
      · skip
        obtain ⟨bn, hbn, ebn⟩ := nat_ltN (n := 40) (by decide) (by assumption) (by assumption)
        refine lv_iload_n hx hb dX9_frame_28 rfl (lv_at hl 4 rfl) ?_
        refine lv_iconst (v := (-1)) hx hb dX9_frame_29 (by decide) ?_
        refine lv_icmp_lt (tgt := 39) hx hb dX9_frame_30 (by decide) (fun c_4 => ?_) (fun c_4 => ?_)
        · skip
          refine lv_iconst (v := (-1)) hx hb dX9_frame_39 (by decide) ?_
          exact m_iret X hr hlk hw hS (Nat.le_of_ble_eq_true rfl) (Nat.le_of_ble_eq_true rfl) (Or.inl ⟨rfl, Or.inr (fun z => by obtain ⟨z1, z2, z3, z4⟩ := z; first | exact absurd (by assumption) z1 | exact absurd z2 (by assumption) | exact absurd (by assumption) z3 | exact absurd z4 (by assumption)), rfl, rfl⟩) dX9_frame_40
        · skip
          refine lv_iload_n hx hb dX9_frame_33 rfl (lv_at hl 4 rfl) ?_
          refine lv_bipush (v := 8) hx hb dX9_frame_34 (by decide) ?_
          refine lv_icmp_le (tgt := 41) hx hb dX9_frame_36 (by decide) (fun c_5 => ?_) (fun c_5 => ?_)
          · skip
            refine lv_aload hx hb dX9_frame_41 (lv_at hl 0 rfl) ?_
            refine lv_iload_n hx hb dX9_frame_43 rfl (lv_at hl 3 rfl) ?_
            refine lv_iload_n hx hb dX9_frame_44 rfl (lv_at hl 4 rfl) ?_
            refine m_callv (m_runV (i := nm (k_1 + 2) 0) (ci := 0) (As := [.int b, .int d]) (rest := []) X (k_X0_putFrame Γ l L x k_1 bn b d (hk.lt hx_1) hbn ebn) v_X0_putFrame ml_X9_50 hw hS (c_cell (hk.lt hx_1) 0 _ _ _) rfl rfl rfl hl.1 ⟨Nat.le_of_ble_eq_true rfl, Nat.le_of_ble_eq_true rfl⟩ (Nat.le_of_ble_eq_true rfl) ⟨Nat.le_of_ble_eq_true rfl, Nat.le_of_ble_eq_true rfl⟩ dX9_frame_45) hS (fun L1 M1 H locs hp_6 hw hS => ?_)
            obtain ⟨g_, hg_, hL_, e2⟩ := hp_6
            refine lv_iconst (v := 0) hx hb dX9_frame_48 (by decide) ?_
            exact m_iret X hr hlk hw hS (Nat.le_of_ble_eq_true rfl) (Nat.le_of_ble_eq_true rfl) (Or.inr ⟨rfl, k_1, bn, g_, hx_1, ea_1, hbn, ebn, dOK_m (Int32.not_lt.mp (by assumption)) (by assumption), hg_, hL_, e2⟩) dX9_frame_49
          · skip
            refine lv_iconst (v := (-1)) hx hb dX9_frame_39 (by decide) ?_
            exact m_iret X hr hlk hw hS (Nat.le_of_ble_eq_true rfl) (Nat.le_of_ble_eq_true rfl) (Or.inl ⟨rfl, Or.inr (fun z => by obtain ⟨z1, z2, z3, z4⟩ := z; first | exact absurd (by assumption) z1 | exact absurd z2 (by assumption) | exact absurd (by assumption) z3 | exact absurd z4 (by assumption)), rfl, rfl⟩) dX9_frame_40
      · skip
        refine lv_iconst (v := (-1)) hx hb dX9_frame_26 (by decide) ?_
        exact m_iret X hr hlk hw hS (Nat.le_of_ble_eq_true rfl) (Nat.le_of_ble_eq_true rfl) (Or.inl ⟨rfl, Or.inr (fun z => by obtain ⟨z1, z2, z3, z4⟩ := z; first | exact absurd (by assumption) z1 | exact absurd z2 (by assumption) | exact absurd (by assumption) z3 | exact absurd z4 (by assumption)), rfl, rfl⟩) dX9_frame_27
theorem v_X9_set : mVm yX9_set cX9_set 7 (some .int) 4 := ⟨cd_X9_set, im_X9_set, se_X9_set, ini_X9, by decide, by decide, by decide +kernel⟩
set_option maxHeartbeats 4000000 in
set_option maxRecDepth 100000 in
theorem k_X9_set (Γ : mG) (l : Launch) (L : mI → Nat) (x : CS) (a : Int32) (b : Int32) (d : Int32) (f : Int32) (hI : CInv x) : mMet Γ l yX9_set cX9_set 7 (some .int) { frames := 2, cells := 0, slots := 0, locals := 44 } [.ref (L (nm 0 0)), .int a, .int b, .int d, .int f] L (cM Γ L x) (mQi Γ (sPost Γ L x a b d f)) := by
  refine m_start (by decide) (Nat.le_of_ble_eq_true rfl) ?_
  intro p e s m args below meth c A ls X hr hlk hnm hw hS hl
  have hx := X.1.1
  have hb := X.1.2.1
  have hl : lv_has ls 7 [(0, .ref (L (nm 0 0))), (1, .int a), (2, .int b), (3, .int d), (4, .int f)] := hl
  have hk : kp x x := kp.rf
  refine lv_aload_n hx hb dX9_set_0 rfl (lv_at hl 0 rfl) ?_
  refine s_get (a := 0) (b := 0) (ci := 7) X hw rfl rfl gX9 0 (by decide) fl_X9_10 rfl rfl dX9_set_1 ?_
  refine lv_iload_n hx hb dX9_set_4 rfl (lv_at hl 1 rfl) ?_
  refine lv_i2l (v := a.toInt64) hx hb dX9_set_5 rfl ?_
  refine m_callq (m_runV (i := nm 0 1) (ci := 5) (As := [.long a.toInt64]) (rest := []) X (k_X7_at Γ l L x a.toInt64 hI.1) v_X7_at ml_X9_34 hw hS rfl rfl rfl rfl hl.1 ⟨Nat.le_of_ble_eq_true rfl, Nat.le_of_ble_eq_true rfl⟩ (Nat.le_of_ble_eq_true rfl) ⟨Nat.le_of_ble_eq_true rfl, Nat.le_of_ble_eq_true rfl⟩ dX9_set_6) hS (fun r_1 L1 M1 H locs hp_1 hw hS => ?_)
  obtain ⟨e1, e2, hq_1⟩ := hp_1
  rw [e1, e2] at hw; clear e1 e2
  rcases hq_1 with ⟨rfl, hno_1⟩ | ⟨k_1, hk_1, ev_1, rfl⟩
  · skip
    refine va_rf_none ?_
    refine lv_astoreN (lv' := [(5, .null), (0, .ref (L (nm 0 0))), (1, .int a), (2, .int b), (3, .int d), (4, .int f)]) hx hb dX9_set_9 hl (by decide) rfl (fun ls hl => ?_)
    refine lv_aloadN hx hb dX9_set_11 (lv_at hl 0 rfl) ?_
    refine lv_ifnonnullN hx hb dX9_set_13 ?_
    refine lv_iconst (v := (-1)) hx hb dX9_set_16 (by decide) ?_
    exact m_iret X hr hlk hw hS (Nat.le_of_ble_eq_true rfl) (Nat.le_of_ble_eq_true rfl) ⟨rfl, Or.inl ⟨rfl, rfl, Or.inl (by rw [i64_toInt] at hno_1; exact hno_1)⟩⟩ dX9_set_17
  · skip
    refine va_rf_some ?_
    have hx_1 : k_1 < cN x := hk.bk hk_1
    have ea_1 := i2l_eq ev_1 (by have := hI.1; omega)
    refine lv_astore (lv' := [(5, .ref (L (nm (k_1 + 2) 0))), (0, .ref (L (nm 0 0))), (1, .int a), (2, .int b), (3, .int d), (4, .int f)]) hx hb dX9_set_9 hl (by decide) rfl (fun ls hl => ?_)
    refine lv_aload hx hb dX9_set_11 (lv_at hl 0 rfl) ?_
    refine lv_ifnonnull (tgt := 18) hx hb dX9_set_13 (by decide) ?_
    refine lv_aload hx hb dX9_set_18 (lv_at hl 0 rfl) ?_
    refine lv_iload_n hx hb dX9_set_20 rfl (lv_at hl 3 rfl) ?_
    refine m_callq (m_runV (i := nm (k_1 + 2) 0) (ci := 0) (As := [.int b]) (rest := []) X (k_X0_frameOf Γ l L x k_1 b hI (hk.lt hx_1)) v_X0_frameOf ml_X9_54 hw hS (c_cell (hk.lt hx_1) 0 _ _ _) rfl rfl rfl hl.1 ⟨Nat.le_of_ble_eq_true rfl, Nat.le_of_ble_eq_true rfl⟩ (Nat.le_of_ble_eq_true rfl) ⟨Nat.le_of_ble_eq_true rfl, Nat.le_of_ble_eq_true rfl⟩ dX9_set_21) hS (fun r_2 L1 M1 H locs hp_2 hw hS => ?_)
    obtain ⟨e1, e2, hq_2⟩ := hp_2
    rw [e1, e2] at hw; clear e1 e2
    rcases hq_2 with ⟨rfl, hno_2⟩ | ⟨i_2, d_2, hi_2, ei_2, hf_2, hd_2, ed_2, rfl⟩
    · skip
      refine va_rf_none ?_
      refine lv_astoreN (lv' := [(6, .null), (5, .ref (L (nm (k_1 + 2) 0))), (0, .ref (L (nm 0 0))), (1, .int a), (2, .int b), (3, .int d), (4, .int f)]) hx hb dX9_set_24 hl (by decide) rfl (fun ls hl => ?_)
      refine lv_aloadN hx hb dX9_set_26 (lv_at hl 0 rfl) ?_
      refine lv_ifnullN (tgt := 48) hx hb dX9_set_28 (by decide) ?_
      refine lv_iconst (v := (-1)) hx hb dX9_set_48 (by decide) ?_
      exact m_iret X hr hlk hw hS (Nat.le_of_ble_eq_true rfl) (Nat.le_of_ble_eq_true rfl) ⟨rfl, Or.inl ⟨rfl, rfl, Or.inr ⟨k_1, hx_1, ea_1, Or.inl hno_2⟩⟩⟩ dX9_set_49
    · skip
      refine va_rf_some ?_
      refine lv_astore (lv' := [(6, .ref (L (nm (k_1 + 2) (2 * i_2 + 8)))), (5, .ref (L (nm (k_1 + 2) 0))), (0, .ref (L (nm 0 0))), (1, .int a), (2, .int b), (3, .int d), (4, .int f)]) hx hb dX9_set_24 hl (by decide) rfl (fun ls hl => ?_)
      refine lv_aload hx hb dX9_set_26 (lv_at hl 0 rfl) ?_
      refine lv_ifnull hx hb dX9_set_28 ?_
      refine lv_aload hx hb dX9_set_31 (lv_at hl 0 rfl) ?_
      refine lv_iload_n hx hb dX9_set_33 rfl (lv_at hl 5 rfl) ?_
      refine m_calli (m_runV (i := nm (k_1 + 2) (2 * i_2 + 8)) (ci := 4) (As := [.int d]) (rest := []) X (k_X6_has Γ l L x (k_1 + 2) (2 * i_2 + 8) d (pOF (hk.lt hx_1) hi_2 hf_2)) v_X6_has ml_X9_58 hw hS (p_obj Γ L (c := x) (pOF (hk.lt hx_1) hi_2 hf_2)) rfl rfl rfl hl.1 ⟨Nat.le_of_ble_eq_true rfl, Nat.le_of_ble_eq_true rfl⟩ (Nat.le_of_ble_eq_true rfl) ⟨Nat.le_of_ble_eq_true rfl, Nat.le_of_ble_eq_true rfl⟩ dX9_set_34) hS (fun r_3 L1 M1 H locs hp_3 hw hS => ?_)
      obtain ⟨e0, e1, e2⟩ := hp_3
      subst e0; rw [e1, e2] at hw; clear e1 e2
      refine lv_if_eq (tgt := 48) hx hb dX9_set_37 (by decide) (fun c_4 => ?_) (fun c_4 => ?_)
      · skip
        have c_4 := bI_f c_4
        refine lv_iconst (v := (-1)) hx hb dX9_set_48 (by decide) ?_
        exact m_iret X hr hlk hw hS (Nat.le_of_ble_eq_true rfl) (Nat.le_of_ble_eq_true rfl) ⟨rfl, Or.inl ⟨rfl, rfl, Or.inr ⟨k_1, hx_1, ea_1, Or.inr ⟨i_2, d_2, hi_2, ei_2, hf_2, hd_2, ed_2, Or.inl (by rw [← ed_2]; exact c_4)⟩⟩⟩⟩ dX9_set_49
      · skip
        have c_4 := bI_t c_4
        refine lv_iload hx hb dX9_set_40 (lv_at hl 6 rfl) ?_
        refine m_calli (m_runS (As := [.int f]) (rest := []) X (k_X3_isKind Γ l L (cM Γ L (x)) f) s_X3_isKind ml_X9_62 hw hS rfl hl.1 ⟨Nat.le_of_ble_eq_true rfl, Nat.le_of_ble_eq_true rfl⟩ (Nat.le_of_ble_eq_true rfl) ⟨Nat.le_of_ble_eq_true rfl, Nat.le_of_ble_eq_true rfl⟩ dX9_set_42) hS (fun r_5 L1 M1 H locs hp_5 hw hS => ?_)
        obtain ⟨rfl, e1, e2⟩ := hp_5
        rw [e1, e2] at hw; clear e1 e2
        refine lv_if_ne (tgt := 50) hx hb dX9_set_45 (by decide) (fun c_6 => ?_) (fun c_6 => ?_)
        · skip
          have c_6 := bI_t c_6
          refine lv_aload hx hb dX9_set_50 (lv_at hl 1 rfl) ?_
          refine lv_iconst (v := 0) hx hb dX9_set_52 (by decide) ?_
          refine s_put (a := k_1 + 2) (b := 0) (v := 0) (ci := 0) (ty := tyX0 11) X hw hS 11 (c_cell (hk.lt hx_1) 0 _ _ _) (c_cell (hk.lt hx_1) 0 _ _ _) rfl gX0 tyX0 tyX0_ok nmX0 (by decide) fl_X9_67 rfl rfl (tyX0_ok 11 (by decide)) rfl rfl (show 11 < 12 by decide) dX9_set_53 (fun H locs hw hS => ?_)
          have hI := hI.right (m := k_1) (v := 0)
          have hk := hk.putS (a := k_1 + 2) (b := 0) (k := 11) (v := 0) (by omega)
          refine lv_aload hx hb dX9_set_56 (lv_at hl 0 rfl) ?_
          refine lv_iload_n hx hb dX9_set_58 rfl (lv_at hl 5 rfl) ?_
          refine lv_iload hx hb dX9_set_59 (lv_at hl 6 rfl) ?_
          have hw : mW Γ.1 vwCl A L (cM Γ L (sP (tS x (k_1 + 2) 0 11 0) (k_1 + 2) (2 * i_2 + 8) ((tS x (k_1 + 2) 0 11 0).2.1 (k_1 + 2) (2 * i_2 + 8 + 1), d_2))) H := by rw [sP_self (q := ((tS x (k_1 + 2) 0 11 0).2.1 (k_1 + 2) (2 * i_2 + 8 + 1), d_2)) ((tS_rd (by omega)).trans ed_2) rfl]; exact hw
          refine m_calli (m_runV (i := nm (k_1 + 2) (2 * i_2 + 8)) (ci := 4) (As := [.int d, .int f]) (rest := []) X (k_X6_exchange Γ l L (tS x (k_1 + 2) 0 11 0) (k_1 + 2) (2 * i_2 + 8) ((tS x (k_1 + 2) 0 11 0).2.1 (k_1 + 2) (2 * i_2 + 8 + 1)) d_2 d f (pOF (hk.lt hx_1) hi_2 hf_2) (by omega)) v_X6_exchange ml_X9_71 hw hS (p_obj Γ L (c := sP (tS x (k_1 + 2) 0 11 0) (k_1 + 2) (2 * i_2 + 8) ((tS x (k_1 + 2) 0 11 0).2.1 (k_1 + 2) (2 * i_2 + 8 + 1), d_2)) (pOF (hk.lt hx_1) hi_2 hf_2)) rfl rfl rfl hl.1 ⟨Nat.le_of_ble_eq_true rfl, Nat.le_of_ble_eq_true rfl⟩ (Nat.le_of_ble_eq_true rfl) ⟨Nat.le_of_ble_eq_true rfl, Nat.le_of_ble_eq_true rfl⟩ dX9_set_61) hS (fun r_7 L1 M1 H locs hp_7 hw hS => ?_)
          obtain ⟨e1, ⟨e0, -, e2⟩ | ⟨n_, hn_, en_, er_, e2⟩⟩ := hp_7
          · rw [e1, e2] at hw
            exact absurd c_4 (by rw [ed_2, e0]; decide)
          · rw [e1, e2] at hw
            exact m_iret X hr hlk hw hS (Nat.le_of_ble_eq_true rfl) (Nat.le_of_ble_eq_true rfl) ⟨rfl, Or.inr ⟨k_1, i_2, d_2, n_, hx_1, ea_1, hi_2, ei_2, hf_2, hd_2, ed_2, hn_, en_, c_6, er_, rfl⟩⟩ dX9_set_64
        · skip
          have c_6 := bI_f c_6
          refine lv_iconst (v := (-1)) hx hb dX9_set_48 (by decide) ?_
          exact m_iret X hr hlk hw hS (Nat.le_of_ble_eq_true rfl) (Nat.le_of_ble_eq_true rfl) ⟨rfl, Or.inl ⟨rfl, rfl, Or.inr ⟨k_1, hx_1, ea_1, Or.inr ⟨i_2, d_2, hi_2, ei_2, hf_2, hd_2, ed_2, Or.inr c_6⟩⟩⟩⟩ dX9_set_49
theorem v_X9_judge : mVm yX9_judge cX9_judge 4 (some .int) 1 := ⟨cd_X9_judge, im_X9_judge, se_X9_judge, ini_X9, by decide, by decide, by decide +kernel⟩
set_option maxHeartbeats 4000000 in
set_option maxRecDepth 100000 in
theorem k_X9_judge (Γ : mG) (l : Launch) (L : mI → Nat) (x : CS) (a : Int32) (hI : CInv x) : mMet Γ l yX9_judge cX9_judge 4 (some .int) { frames := 6, cells := 0, slots := 0, locals := 142 } [.ref (L (nm 0 0)), .int a] L (cM Γ L x) (mQi Γ (fun _ L1 M1 => L1 = L ∧ ∃ c1 : CS, M1 = cM Γ L c1 ∧ CInv c1 ∧ kp x c1)) := by
  refine m_start (by decide) (Nat.le_of_ble_eq_true rfl) ?_
  intro p e s m args below meth c A ls X hr hlk hnm hw hS hl
  have hx := X.1.1
  have hb := X.1.2.1
  have hl : lv_has ls 4 [(0, .ref (L (nm 0 0))), (1, .int a)] := hl
  have hk : kp x x := kp.rf
  refine lv_aload_n hx hb dX9_judge_0 rfl (lv_at hl 0 rfl) ?_
  refine s_get (a := 0) (b := 0) (ci := 7) X hw rfl rfl gX9 0 (by decide) fl_X9_10 rfl rfl dX9_judge_1 ?_
  refine lv_iload_n hx hb dX9_judge_4 rfl (lv_at hl 1 rfl) ?_
  refine lv_i2l (v := a.toInt64) hx hb dX9_judge_5 rfl ?_
  refine m_callq (m_runV (i := nm 0 1) (ci := 5) (As := [.long a.toInt64]) (rest := []) X (k_X7_at Γ l L x a.toInt64 hI.1) v_X7_at ml_X9_34 hw hS rfl rfl rfl rfl hl.1 ⟨Nat.le_of_ble_eq_true rfl, Nat.le_of_ble_eq_true rfl⟩ (Nat.le_of_ble_eq_true rfl) ⟨Nat.le_of_ble_eq_true rfl, Nat.le_of_ble_eq_true rfl⟩ dX9_judge_6) hS (fun r_1 L1 M1 H locs hp_1 hw hS => ?_)
  obtain ⟨e1, e2, hq_1⟩ := hp_1
  rw [e1, e2] at hw; clear e1 e2
  rcases hq_1 with ⟨rfl, hno_1⟩ | ⟨k_1, hk_1, ev_1, rfl⟩
  · skip
    refine va_rf_none ?_
    refine lv_astore_nN (lv' := [(2, .null), (0, .ref (L (nm 0 0))), (1, .int a)]) hx hb dX9_judge_9 rfl hl (by decide) rfl (fun ls hl => ?_)
    refine lv_aload_nN hx hb dX9_judge_10 rfl (lv_at hl 0 rfl) ?_
    refine lv_ifnonnullN hx hb dX9_judge_11 ?_
    refine lv_iconst (v := (-1)) hx hb dX9_judge_14 (by decide) ?_
    exact m_iret X hr hlk hw hS (Nat.le_of_ble_eq_true rfl) (Nat.le_of_ble_eq_true rfl) ⟨rfl, _, rfl, hI, hk⟩ dX9_judge_15
  · skip
    refine va_rf_some ?_
    have hx_1 : k_1 < cN x := hk.bk hk_1
    have ea_1 := i2l_eq ev_1 (by have := hI.1; omega)
    refine lv_astore_n (lv' := [(2, .ref (L (nm (k_1 + 2) 0))), (0, .ref (L (nm 0 0))), (1, .int a)]) hx hb dX9_judge_9 rfl hl (by decide) rfl (fun ls hl => ?_)
    refine lv_aload_n hx hb dX9_judge_10 rfl (lv_at hl 0 rfl) ?_
    refine lv_ifnonnull (tgt := 16) hx hb dX9_judge_11 (by decide) ?_
    refine lv_aload_n hx hb dX9_judge_16 rfl (lv_at hl 1 rfl) ?_
    refine s_get (a := 0) (b := 0) (ci := 7) X hw rfl rfl gX9 1 (by decide) fl_X9_19 rfl rfl dX9_judge_17 ?_
    refine lv_aload_n hx hb dX9_judge_20 rfl (lv_at hl 1 rfl) ?_
    refine s_get (a := 0) (b := 0) (ci := 7) X hw rfl rfl gX9 0 (by decide) fl_X9_10 rfl rfl dX9_judge_21 ?_
    refine lv_aload_n hx hb dX9_judge_24 rfl (lv_at hl 0 rfl) ?_
    refine m_calli (m_runV (i := nm 0 3) (ci := 2) (As := [.ref (L (nm 0 1)), .ref (L (nm (k_1 + 2) 0))]) (rest := []) X (k_X2_byFrames Γ l L x k_1 hI (hk.lt hx_1)) v_X2_byFrames ml_X9_75 hw hS rfl rfl rfl rfl hl.1 ⟨Nat.le_of_ble_eq_true rfl, Nat.le_of_ble_eq_true rfl⟩ (Nat.le_of_ble_eq_true rfl) ⟨Nat.le_of_ble_eq_true rfl, Nat.le_of_ble_eq_true rfl⟩ dX9_judge_25) hS (fun r_2 L1 M1 H locs hp_2 hw hS => ?_)
    obtain ⟨e1, c_2, e2, hI_2, hk_2⟩ := hp_2
    rw [e1, e2] at hw; clear e1 e2
    have hk := hk.tr hk_2
    have hI := hI_2
    refine lv_istore_n (lv' := [(3, .int r_2), (2, .ref (L (nm (k_1 + 2) 0))), (0, .ref (L (nm 0 0))), (1, .int a)]) hx hb dX9_judge_28 rfl hl (by decide) rfl (fun ls hl => ?_)
    refine lv_aload_n hx hb dX9_judge_29 rfl (lv_at hl 1 rfl) ?_
    refine lv_iload_n hx hb dX9_judge_30 rfl (lv_at hl 0 rfl) ?_
    refine lv_if_ne (tgt := 38) hx hb dX9_judge_31 (by decide) (fun c_3 => ?_) (fun c_3 => ?_)
    · skip
      refine lv_iconst (v := 0) hx hb dX9_judge_38 (by decide) ?_
      refine s_put (a := k_1 + 2) (b := 0) (v := 0) (ci := 0) (ty := tyX0 11) X hw hS 11 (c_cell (hk.lt hx_1) 0 _ _ _) (c_cell (hk.lt hx_1) 0 _ _ _) rfl gX0 tyX0 tyX0_ok nmX0 (by decide) fl_X9_67 rfl rfl (tyX0_ok 11 (by decide)) rfl rfl (show 11 < 12 by decide) dX9_judge_39 (fun H locs hw hS => ?_)
      have hI := hI.right (m := k_1) (v := 0)
      have hk := hk.putS (a := k_1 + 2) (b := 0) (k := 11) (v := 0) (by omega)
      refine lv_iload_n hx hb dX9_judge_42 rfl (lv_at hl 0 rfl) ?_
      exact m_iret X hr hlk hw hS (Nat.le_of_ble_eq_true rfl) (Nat.le_of_ble_eq_true rfl) ⟨rfl, _, rfl, hI, hk⟩ dX9_judge_43
    · skip
      refine lv_iconst (v := 1) hx hb dX9_judge_34 (by decide) ?_
      refine lv_goto (tgt := 39) hx hb dX9_judge_35 (by decide) ?_
      refine s_put (a := k_1 + 2) (b := 0) (v := 1) (ci := 0) (ty := tyX0 11) X hw hS 11 (c_cell (hk.lt hx_1) 0 _ _ _) (c_cell (hk.lt hx_1) 0 _ _ _) rfl gX0 tyX0 tyX0_ok nmX0 (by decide) fl_X9_67 rfl rfl (tyX0_ok 11 (by decide)) rfl rfl (show 11 < 12 by decide) dX9_judge_39 (fun H locs hw hS => ?_)
      have hI := hI.right (m := k_1) (v := 1)
      have hk := hk.putS (a := k_1 + 2) (b := 0) (k := 11) (v := 1) (by omega)
      refine lv_iload_n hx hb dX9_judge_42 rfl (lv_at hl 0 rfl) ?_
      exact m_iret X hr hlk hw hS (Nat.le_of_ble_eq_true rfl) (Nat.le_of_ble_eq_true rfl) ⟨rfl, _, rfl, hI, hk⟩ dX9_judge_43
theorem v_X9_join : mVm yX9_join cX9_join 4 (some .int) 1 := ⟨cd_X9_join, im_X9_join, se_X9_join, ini_X9, by decide, by decide, by decide +kernel⟩
theorem v_X9_kind : mVm yX9_kind cX9_kind 3 (some .int) 2 := ⟨cd_X9_kind, im_X9_kind, se_X9_kind, ini_X9, by decide, by decide, by decide +kernel⟩
set_option maxHeartbeats 4000000 in
set_option maxRecDepth 100000 in
theorem k_X9_kind (Γ : mG) (l : Launch) (L : mI → Nat) (x : CS) (a : Int32) (b : Int32) (hI : CInv x) : mMet Γ l yX9_kind cX9_kind 3 (some .int) { frames := 2, cells := 0, slots := 0, locals := 43 } [.ref (L (nm 0 0)), .int a, .int b] L (cM Γ L x) (mQi Γ (fun _ L1 M1 => L1 = L ∧ M1 = cM Γ L x)) := by
  refine m_start (by decide) (Nat.le_of_ble_eq_true rfl) ?_
  intro p e s m args below meth c A ls X hr hlk hnm hw hS hl
  have hx := X.1.1
  have hb := X.1.2.1
  have hl : lv_has ls 3 [(0, .ref (L (nm 0 0))), (1, .int a), (2, .int b)] := hl
  have hk : kp x x := kp.rf
  refine lv_aload_n hx hb dX9_kind_0 rfl (lv_at hl 0 rfl) ?_
  refine s_get (a := 0) (b := 0) (ci := 7) X hw rfl rfl gX9 1 (by decide) fl_X9_19 rfl rfl dX9_kind_1 ?_
  refine lv_iload_n hx hb dX9_kind_4 rfl (lv_at hl 1 rfl) ?_
  refine lv_iload_n hx hb dX9_kind_5 rfl (lv_at hl 2 rfl) ?_
  refine m_calli (m_runV (i := nm 0 3) (ci := 2) (As := [.int a, .int b]) (rest := []) X (k_X2_kindAhead Γ l L x a b hI) v_X2_kindAhead ml_X9_82 hw hS rfl rfl rfl rfl hl.1 ⟨Nat.le_of_ble_eq_true rfl, Nat.le_of_ble_eq_true rfl⟩ (Nat.le_of_ble_eq_true rfl) ⟨Nat.le_of_ble_eq_true rfl, Nat.le_of_ble_eq_true rfl⟩ dX9_kind_6) hS (fun r_1 L1 M1 H locs hp_1 hw hS => ?_)
  obtain ⟨e1, e2⟩ := hp_1
  rw [e1, e2] at hw; clear e1 e2
  exact m_iret X hr hlk hw hS (Nat.le_of_ble_eq_true rfl) (Nat.le_of_ble_eq_true rfl) ⟨rfl, rfl⟩ dX9_kind_9
theorem v_X9_rounds : mVm yX9_rounds cX9_rounds 1 (some .int) 0 := ⟨cd_X9_rounds, im_X9_rounds, se_X9_rounds, ini_X9, by decide, by decide, by decide +kernel⟩
set_option maxHeartbeats 4000000 in
set_option maxRecDepth 100000 in
theorem k_X9_rounds (Γ : mG) (l : Launch) (L : mI → Nat) (x : CS)  (hI : CInv x) : mMet Γ l yX9_rounds cX9_rounds 1 (some .int) { frames := 0, cells := 0, slots := 0, locals := 0 } [.ref (L (nm 0 0))] L (cM Γ L x) (mQi Γ (fun r L1 M1 => r = x.1 0 3 5 ∧ L1 = L ∧ M1 = cM Γ L x)) := by
  refine m_start (by decide) (Nat.le_of_ble_eq_true rfl) ?_
  intro p e s m args below meth c A ls X hr hlk hnm hw hS hl
  have hx := X.1.1
  have hb := X.1.2.1
  have hl : lv_has ls 1 [(0, .ref (L (nm 0 0)))] := hl
  have hk : kp x x := kp.rf
  refine lv_aload_n hx hb dX9_rounds_0 rfl (lv_at hl 0 rfl) ?_
  refine s_get (a := 0) (b := 0) (ci := 7) X hw rfl rfl gX9 1 (by decide) fl_X9_19 rfl rfl dX9_rounds_1 ?_
  refine s_get (a := 0) (b := 3) (ci := 2) X hw rfl rfl gX2 5 (by decide) fl_X9_85 rfl rfl dX9_rounds_4 ?_
  exact m_iret X hr hlk hw hS (Nat.le_of_ble_eq_true rfl) (Nat.le_of_ble_eq_true rfl) ⟨rfl, rfl, rfl⟩ dX9_rounds_7
theorem v_X9_answer : mVm yX9_answer cX9_answer 1 (some .int) 0 := ⟨cd_X9_answer, im_X9_answer, se_X9_answer, ini_X9, by decide, by decide, by decide +kernel⟩
set_option maxHeartbeats 4000000 in
set_option maxRecDepth 100000 in
theorem k_X9_answer (Γ : mG) (l : Launch) (L : mI → Nat) (x : CS)  (hI : CInv x) : mMet Γ l yX9_answer cX9_answer 1 (some .int) { frames := 0, cells := 0, slots := 0, locals := 0 } [.ref (L (nm 0 0))] L (cM Γ L x) (mQi Γ (fun _ L1 M1 => L1 = L ∧ M1 = cM Γ L x)) := by
  refine m_start (by decide) (Nat.le_of_ble_eq_true rfl) ?_
  intro p e s m args below meth c A ls X hr hlk hnm hw hS hl
  have hx := X.1.1
  have hb := X.1.2.1
  have hl : lv_has ls 1 [(0, .ref (L (nm 0 0)))] := hl
  have hk : kp x x := kp.rf
  refine lv_aload_n hx hb dX9_answer_0 rfl (lv_at hl 0 rfl) ?_
  refine s_get (a := 0) (b := 0) (ci := 7) X hw rfl rfl gX9 2 (by decide) fl_X9_26 rfl rfl dX9_answer_1 ?_
  refine s_get (a := 0) (b := 10) (ci := 3) X hw rfl rfl gX4 9 (by decide) fl_X9_111 rfl rfl dX9_answer_4 ?_
  exact m_iret X hr hlk hw hS (Nat.le_of_ble_eq_true rfl) (Nat.le_of_ble_eq_true rfl) ⟨rfl, rfl⟩ dX9_answer_7
theorem v_X9_told : mVm yX9_told cX9_told 2 (some .int) 1 := ⟨cd_X9_told, im_X9_told, se_X9_told, ini_X9, by decide, by decide, by decide +kernel⟩
set_option maxHeartbeats 4000000 in
set_option maxRecDepth 100000 in
theorem k_X9_told (Γ : mG) (l : Launch) (L : mI → Nat) (x : CS) (a : Int32) (hI : CInv x) : mMet Γ l yX9_told cX9_told 2 (some .int) { frames := 0, cells := 0, slots := 0, locals := 0 } [.ref (L (nm 0 0)), .int a] L (cM Γ L x) (mQi Γ (fun _ L1 M1 => L1 = L ∧ M1 = cM Γ L x)) := by
  refine m_start (by decide) (Nat.le_of_ble_eq_true rfl) ?_
  intro p e s m args below meth c A ls X hr hlk hnm hw hS hl
  have hx := X.1.1
  have hb := X.1.2.1
  have hl : lv_has ls 2 [(0, .ref (L (nm 0 0))), (1, .int a)] := hl
  have hk : kp x x := kp.rf
  refine lv_iload_n hx hb dX9_told_0 rfl (lv_at hl 1 rfl) ?_
  by_cases c_1 : a.toInt < 0 ∨ 4 < a.toInt
  · refine lv_tableOut (tgt := 79) hx hb dX9_told_1 c_1 (by decide) ?_
    refine lv_iconst (v := (-1)) hx hb dX9_told_79 (by decide) ?_
    exact m_iret X hr hlk hw hS (Nat.le_of_ble_eq_true rfl) (Nat.le_of_ble_eq_true rfl) ⟨rfl, rfl⟩ dX9_told_80
  · have c_1b : a.toInt = 0 ∨ a.toInt = 1 ∨ a.toInt = 2 ∨ a.toInt = 3 ∨ a.toInt = 4 := by omega
    rcases c_1b with c_1v | c_1v | c_1v | c_1v | c_1v
    · have c_1e : a = 0 := Int32.toInt_inj.mp c_1v
      refine lv_tableIn (off := 35) (tgt := 36) hx hb dX9_told_1 (by omega) (by omega) (by rw [c_1v]; rfl) (by decide) ?_
      refine lv_aload_n hx hb dX9_told_36 rfl (lv_at hl 0 rfl) ?_
      refine s_get (a := 0) (b := 0) (ci := 7) X hw rfl rfl gX9 2 (by decide) fl_X9_26 rfl rfl dX9_told_37 ?_
      refine s_get (a := 0) (b := 10) (ci := 3) X hw rfl rfl gX4 10 (by decide) fl_X9_114 rfl rfl dX9_told_40 ?_
      exact m_iret X hr hlk hw hS (Nat.le_of_ble_eq_true rfl) (Nat.le_of_ble_eq_true rfl) ⟨rfl, rfl⟩ dX9_told_43
    · have c_1e : a = 1 := Int32.toInt_inj.mp c_1v
      refine lv_tableIn (off := 43) (tgt := 44) hx hb dX9_told_1 (by omega) (by omega) (by rw [c_1v]; rfl) (by decide) ?_
      refine lv_aload_n hx hb dX9_told_44 rfl (lv_at hl 0 rfl) ?_
      refine s_get (a := 0) (b := 0) (ci := 7) X hw rfl rfl gX9 2 (by decide) fl_X9_26 rfl rfl dX9_told_45 ?_
      refine s_get (a := 0) (b := 10) (ci := 3) X hw rfl rfl gX4 11 (by decide) fl_X9_117 rfl rfl dX9_told_48 ?_
      exact m_iret X hr hlk hw hS (Nat.le_of_ble_eq_true rfl) (Nat.le_of_ble_eq_true rfl) ⟨rfl, rfl⟩ dX9_told_51
    · have c_1e : a = 2 := Int32.toInt_inj.mp c_1v
      refine lv_tableIn (off := 51) (tgt := 52) hx hb dX9_told_1 (by omega) (by omega) (by rw [c_1v]; rfl) (by decide) ?_
      refine lv_aload_n hx hb dX9_told_52 rfl (lv_at hl 0 rfl) ?_
      refine s_get (a := 0) (b := 0) (ci := 7) X hw rfl rfl gX9 2 (by decide) fl_X9_26 rfl rfl dX9_told_53 ?_
      refine s_get (a := 0) (b := 10) (ci := 3) X hw rfl rfl gX4 0 (by decide) fl_X9_120 rfl rfl dX9_told_56 ?_
      refine s_get (a := 0) (b := 11) (ci := 1) X hw rfl rfl gX1 4 (by decide) fl_X9_124 rfl rfl dX9_told_59 ?_
      obtain ⟨z_2, hz_2, ez_2⟩ := hI.2.2.2.2.1
      refine lv_topi (fun v_3 ev_3 => ?_)
      obtain rfl : v_3 = nI (z_2) := ev_3.trans ez_2
      clear ev_3
      exact m_iret X hr hlk hw hS (Nat.le_of_ble_eq_true rfl) (Nat.le_of_ble_eq_true rfl) ⟨rfl, rfl⟩ dX9_told_62
    · have c_1e : a = 3 := Int32.toInt_inj.mp c_1v
      refine lv_tableIn (off := 62) (tgt := 63) hx hb dX9_told_1 (by omega) (by omega) (by rw [c_1v]; rfl) (by decide) ?_
      refine lv_aload_n hx hb dX9_told_63 rfl (lv_at hl 0 rfl) ?_
      refine s_get (a := 0) (b := 0) (ci := 7) X hw rfl rfl gX9 2 (by decide) fl_X9_26 rfl rfl dX9_told_64 ?_
      refine s_get (a := 0) (b := 10) (ci := 3) X hw rfl rfl gX4 12 (by decide) fl_X9_129 rfl rfl dX9_told_67 ?_
      exact m_iret X hr hlk hw hS (Nat.le_of_ble_eq_true rfl) (Nat.le_of_ble_eq_true rfl) ⟨rfl, rfl⟩ dX9_told_70
    · have c_1e : a = 4 := Int32.toInt_inj.mp c_1v
      refine lv_tableIn (off := 70) (tgt := 71) hx hb dX9_told_1 (by omega) (by omega) (by rw [c_1v]; rfl) (by decide) ?_
      refine lv_aload_n hx hb dX9_told_71 rfl (lv_at hl 0 rfl) ?_
      refine s_get (a := 0) (b := 0) (ci := 7) X hw rfl rfl gX9 2 (by decide) fl_X9_26 rfl rfl dX9_told_72 ?_
      refine s_get (a := 0) (b := 10) (ci := 3) X hw rfl rfl gX4 13 (by decide) fl_X9_132 rfl rfl dX9_told_75 ?_
      exact m_iret X hr hlk hw hS (Nat.le_of_ble_eq_true rfl) (Nat.le_of_ble_eq_true rfl) ⟨rfl, rfl⟩ dX9_told_78
theorem v_X9_count : mVm yX9_count cX9_count 4 (some .int) 2 := ⟨cd_X9_count, im_X9_count, se_X9_count, ini_X9, by decide, by decide, by decide +kernel⟩
set_option maxHeartbeats 4000000 in
set_option maxRecDepth 100000 in
theorem k_X9_count (Γ : mG) (l : Launch) (L : mI → Nat) (x : CS) (a : Int32) (b : Int32) (hI : CInv x) : mMet Γ l yX9_count cX9_count 4 (some .int) { frames := 1, cells := 0, slots := 0, locals := 22 } [.ref (L (nm 0 0)), .int a, .int b] L (cM Γ L x) (mQi Γ (fun _ L1 M1 => L1 = L ∧ M1 = cM Γ L x)) := by
  refine m_start (by decide) (Nat.le_of_ble_eq_true rfl) ?_
  intro p e s m args below meth c A ls X hr hlk hnm hw hS hl
  have hx := X.1.1
  have hb := X.1.2.1
  have hl : lv_has ls 4 [(0, .ref (L (nm 0 0))), (1, .int a), (2, .int b)] := hl
  have hk : kp x x := kp.rf
  refine lv_iload_n hx hb dX9_count_0 rfl (lv_at hl 1 rfl) ?_
  refine lv_if_ne (tgt := 12) hx hb dX9_count_1 (by decide) (fun c_1 => ?_) (fun c_1 => ?_)
  · skip
    refine lv_aload_n hx hb dX9_count_12 rfl (lv_at hl 0 rfl) ?_
    refine s_get (a := 0) (b := 0) (ci := 7) X hw rfl rfl gX9 0 (by decide) fl_X9_10 rfl rfl dX9_count_13 ?_
    refine lv_iload_n hx hb dX9_count_16 rfl (lv_at hl 2 rfl) ?_
    refine lv_i2l (v := b.toInt64) hx hb dX9_count_17 rfl ?_
    refine m_callq (m_runV (i := nm 0 1) (ci := 5) (As := [.long b.toInt64]) (rest := []) X (k_X7_at Γ l L x b.toInt64 hI.1) v_X7_at ml_X9_34 hw hS rfl rfl rfl rfl hl.1 ⟨Nat.le_of_ble_eq_true rfl, Nat.le_of_ble_eq_true rfl⟩ (Nat.le_of_ble_eq_true rfl) ⟨Nat.le_of_ble_eq_true rfl, Nat.le_of_ble_eq_true rfl⟩ dX9_count_18) hS (fun r_2 L1 M1 H locs hp_2 hw hS => ?_)
    obtain ⟨e1, e2, hq_2⟩ := hp_2
    rw [e1, e2] at hw; clear e1 e2
    rcases hq_2 with ⟨rfl, hno_2⟩ | ⟨k_2, hk_2, ev_2, rfl⟩
    · skip
      refine va_rf_none ?_
      refine lv_astore_nN (lv' := [(3, .null), (0, .ref (L (nm 0 0))), (1, .int a), (2, .int b)]) hx hb dX9_count_21 rfl hl (by decide) rfl (fun ls hl => ?_)
      refine lv_aload_nN hx hb dX9_count_22 rfl (lv_at hl 0 rfl) ?_
      refine lv_ifnonnullN hx hb dX9_count_23 ?_
      refine lv_iconst (v := (-1)) hx hb dX9_count_26 (by decide) ?_
      exact m_iret X hr hlk hw hS (Nat.le_of_ble_eq_true rfl) (Nat.le_of_ble_eq_true rfl) ⟨rfl, rfl⟩ dX9_count_27
    · skip
      refine va_rf_some ?_
      have hx_2 : k_2 < cN x := hk.bk hk_2
      have ea_2 := i2l_eq ev_2 (by have := hI.1; omega)
      refine lv_astore_n (lv' := [(3, .ref (L (nm (k_2 + 2) 0))), (0, .ref (L (nm 0 0))), (1, .int a), (2, .int b)]) hx hb dX9_count_21 rfl hl (by decide) rfl (fun ls hl => ?_)
      refine lv_aload_n hx hb dX9_count_22 rfl (lv_at hl 0 rfl) ?_
      refine lv_ifnonnull (tgt := 28) hx hb dX9_count_23 (by decide) ?_
      refine lv_iload_n hx hb dX9_count_28 rfl (lv_at hl 2 rfl) ?_
      by_cases c_3 : a.toInt < 1 ∨ 3 < a.toInt
      · refine lv_tableOut (tgt := 79) hx hb dX9_count_29 c_3 (by decide) ?_
        refine lv_iconst (v := (-1)) hx hb dX9_count_79 (by decide) ?_
        exact m_iret X hr hlk hw hS (Nat.le_of_ble_eq_true rfl) (Nat.le_of_ble_eq_true rfl) ⟨rfl, rfl⟩ dX9_count_80
      · have c_3b : a.toInt = 1 ∨ a.toInt = 2 ∨ a.toInt = 3 := by omega
        rcases c_3b with c_3v | c_3v | c_3v
        · have c_3e : a = 1 := Int32.toInt_inj.mp c_3v
          refine lv_tableIn (off := 27) (tgt := 56) hx hb dX9_count_29 (by omega) (by omega) (by rw [c_3v]; rfl) (by decide) ?_
          refine lv_aload_n hx hb dX9_count_56 rfl (lv_at hl 0 rfl) ?_
          refine s_get (a := k_2 + 2) (b := 0) (ci := 0) X hw (c_cell (hk.lt hx_2) 0 _ _ _) rfl gX0 4 (by decide) fl_X9_138 rfl rfl dX9_count_57 ?_
          obtain ⟨z_4, hz_4, ez_4⟩ := (hI.2.1 k_2 (hk.lt hx_2)).2.1
          refine lv_topi (fun v_5 ev_5 => ?_)
          obtain rfl : v_5 = nI (z_4) := ev_5.trans ez_4
          clear ev_5
          exact m_iret X hr hlk hw hS (Nat.le_of_ble_eq_true rfl) (Nat.le_of_ble_eq_true rfl) ⟨rfl, rfl⟩ dX9_count_60
        · have c_3e : a = 2 := Int32.toInt_inj.mp c_3v
          refine lv_tableIn (off := 32) (tgt := 61) hx hb dX9_count_29 (by omega) (by omega) (by rw [c_3v]; rfl) (by decide) ?_
          refine lv_aload_n hx hb dX9_count_61 rfl (lv_at hl 0 rfl) ?_
          refine s_get (a := k_2 + 2) (b := 0) (ci := 0) X hw (c_cell (hk.lt hx_2) 0 _ _ _) rfl gX0 9 (by decide) fl_X9_139 rfl rfl dX9_count_62 ?_
          obtain ⟨z_6, hz_6, ez_6⟩ := (hI.2.1 k_2 (hk.lt hx_2)).2.2
          refine lv_topi (fun v_7 ev_7 => ?_)
          obtain rfl : v_7 = nI (z_6) := ev_7.trans ez_6
          clear ev_7
          exact m_iret X hr hlk hw hS (Nat.le_of_ble_eq_true rfl) (Nat.le_of_ble_eq_true rfl) ⟨rfl, rfl⟩ dX9_count_65
        · have c_3e : a = 3 := Int32.toInt_inj.mp c_3v
          refine lv_tableIn (off := 37) (tgt := 66) hx hb dX9_count_29 (by omega) (by omega) (by rw [c_3v]; rfl) (by decide) ?_
          refine lv_aload_n hx hb dX9_count_66 rfl (lv_at hl 0 rfl) ?_
          refine s_get (a := k_2 + 2) (b := 0) (ci := 0) X hw (c_cell (hk.lt hx_2) 0 _ _ _) rfl gX0 11 (by decide) fl_X9_67 rfl rfl dX9_count_67 ?_
          refine lv_if_eq (tgt := 77) hx hb dX9_count_70 (by decide) (fun c_8 => ?_) (fun c_8 => ?_)
          · skip
            refine lv_iconst (v := 0) hx hb dX9_count_77 (by decide) ?_
            exact m_iret X hr hlk hw hS (Nat.le_of_ble_eq_true rfl) (Nat.le_of_ble_eq_true rfl) ⟨rfl, rfl⟩ dX9_count_78
          · skip
            refine lv_iconst (v := 1) hx hb dX9_count_73 (by decide) ?_
            refine lv_goto (tgt := 78) hx hb dX9_count_74 (by decide) ?_
            exact m_iret X hr hlk hw hS (Nat.le_of_ble_eq_true rfl) (Nat.le_of_ble_eq_true rfl) ⟨rfl, rfl⟩ dX9_count_78
  · skip
    refine lv_aload_n hx hb dX9_count_4 rfl (lv_at hl 0 rfl) ?_
    refine s_get (a := 0) (b := 0) (ci := 7) X hw rfl rfl gX9 0 (by decide) fl_X9_10 rfl rfl dX9_count_5 ?_
    refine s_get (a := 0) (b := 1) (ci := 5) X hw rfl rfl gX7 1 (by decide) fl_X9_135 rfl rfl dX9_count_8 ?_
    exact m_iret X hr hlk hw hS (Nat.le_of_ble_eq_true rfl) (Nat.le_of_ble_eq_true rfl) ⟨rfl, rfl⟩ dX9_count_11
theorem v_X9_kinds : mVm yX9_kinds cX9_kinds 4 (some .int) 3 := ⟨cd_X9_kinds, im_X9_kinds, se_X9_kinds, ini_X9, by decide, by decide, by decide +kernel⟩
set_option maxHeartbeats 4000000 in
set_option maxRecDepth 100000 in
theorem k_X9_kinds (Γ : mG) (l : Launch) (L : mI → Nat) (x : CS) (a : Int32) (b : Int32) (g : Int32) (hI : CInv x) : mMet Γ l yX9_kinds cX9_kinds 4 (some .int) { frames := 3, cells := 0, slots := 0, locals := 65 } [.ref (L (nm 0 0)), .int a, .int b, .int g] L (cM Γ L x) (mQi Γ (fun r L1 M1 => r = k_kinds a b g ∧ L1 = L ∧ M1 = cM Γ L x)) := by
  refine m_start (by decide) (Nat.le_of_ble_eq_true rfl) ?_
  intro p e s m args below meth c A ls X hr hlk hnm hw hS hl
  have hx := X.1.1
  have hb := X.1.2.1
  have hl : lv_has ls 4 [(0, .ref (L (nm 0 0))), (1, .int a), (2, .int b), (3, .int g)] := hl
  have hk : kp x x := kp.rf
  refine lv_iload_n hx hb dX9_kinds_0 rfl (lv_at hl 1 rfl) ?_
  refine m_calli (m_runS (As := [.int a]) (rest := []) X (k_X3_isKind Γ l L (cM Γ L (x)) a) s_X3_isKind ml_X9_62 hw hS rfl hl.1 ⟨Nat.le_of_ble_eq_true rfl, Nat.le_of_ble_eq_true rfl⟩ (Nat.le_of_ble_eq_true rfl) ⟨Nat.le_of_ble_eq_true rfl, Nat.le_of_ble_eq_true rfl⟩ dX9_kinds_1) hS (fun r_1 L1 M1 H locs hp_1 hw hS => ?_)
  obtain ⟨rfl, e1, e2⟩ := hp_1
  rw [e1, e2] at hw; clear e1 e2
  refine lv_if_eq (tgt := 14) hx hb dX9_kinds_4 (by decide) (fun c_2 => ?_) (fun c_2 => ?_)
  · skip
    have c_2 := bI_f c_2
    refine lv_iconst (v := (-1)) hx hb dX9_kinds_14 (by decide) ?_
    exact m_iret X hr hlk hw hS (Nat.le_of_ble_eq_true rfl) (Nat.le_of_ble_eq_true rfl) ⟨by clear hk hI hb hx hl hS hw hnm hlk hr X; first | rfl | (simp_all [bI, k_kinds]; done) | (simp_all [bI, k_kinds]; rfl), rfl, rfl⟩ dX9_kinds_15
  · skip
    have c_2 := bI_t c_2
    refine lv_iload_n hx hb dX9_kinds_7 rfl (lv_at hl 2 rfl) ?_
    refine m_calli (m_runS (As := [.int b]) (rest := []) X (k_X3_isKind Γ l L (cM Γ L (x)) b) s_X3_isKind ml_X9_62 hw hS rfl hl.1 ⟨Nat.le_of_ble_eq_true rfl, Nat.le_of_ble_eq_true rfl⟩ (Nat.le_of_ble_eq_true rfl) ⟨Nat.le_of_ble_eq_true rfl, Nat.le_of_ble_eq_true rfl⟩ dX9_kinds_8) hS (fun r_3 L1 M1 H locs hp_3 hw hS => ?_)
    obtain ⟨rfl, e1, e2⟩ := hp_3
    rw [e1, e2] at hw; clear e1 e2
    refine lv_if_ne (tgt := 16) hx hb dX9_kinds_11 (by decide) (fun c_4 => ?_) (fun c_4 => ?_)
    · skip
      have c_4 := bI_t c_4
      refine lv_iload_n hx hb dX9_kinds_16 rfl (lv_at hl 3 rfl) ?_
      refine lv_if_eq (tgt := 34) hx hb dX9_kinds_17 (by decide) (fun c_5 => ?_) (fun c_5 => ?_)
      · skip
        refine lv_iload_n hx hb dX9_kinds_34 rfl (lv_at hl 1 rfl) ?_
        refine lv_iload_n hx hb dX9_kinds_35 rfl (lv_at hl 2 rfl) ?_
        refine m_calli (m_runS (As := [.int a, .int b]) (rest := []) X (k_X3_joinOf Γ l L (cM Γ L (x)) a b) s_X3_joinOf ml_X9_93 hw hS rfl hl.1 ⟨Nat.le_of_ble_eq_true rfl, Nat.le_of_ble_eq_true rfl⟩ (Nat.le_of_ble_eq_true rfl) ⟨Nat.le_of_ble_eq_true rfl, Nat.le_of_ble_eq_true rfl⟩ dX9_kinds_36) hS (fun r_6 L1 M1 H locs hp_6 hw hS => ?_)
        obtain ⟨rfl, e1, e2⟩ := hp_6
        rw [e1, e2] at hw; clear e1 e2
        exact m_iret X hr hlk hw hS (Nat.le_of_ble_eq_true rfl) (Nat.le_of_ble_eq_true rfl) ⟨by clear hk hI hb hx hl hS hw hnm hlk hr X; first | rfl | (simp_all [bI, k_kinds]; done) | (simp_all [bI, k_kinds]; rfl), rfl, rfl⟩ dX9_kinds_39
      · skip
        refine lv_iload_n hx hb dX9_kinds_20 rfl (lv_at hl 1 rfl) ?_
        refine lv_iload_n hx hb dX9_kinds_21 rfl (lv_at hl 2 rfl) ?_
        refine m_calli (m_runS (As := [.int a, .int b]) (rest := []) X (k_X3_goesTo Γ l L (cM Γ L (x)) a b) s_X3_goesTo ml_X9_89 hw hS rfl hl.1 ⟨Nat.le_of_ble_eq_true rfl, Nat.le_of_ble_eq_true rfl⟩ (Nat.le_of_ble_eq_true rfl) ⟨Nat.le_of_ble_eq_true rfl, Nat.le_of_ble_eq_true rfl⟩ dX9_kinds_22) hS (fun r_7 L1 M1 H locs hp_7 hw hS => ?_)
        obtain ⟨rfl, e1, e2⟩ := hp_7
        rw [e1, e2] at hw; clear e1 e2
        refine lv_if_eq (tgt := 32) hx hb dX9_kinds_25 (by decide) (fun c_8 => ?_) (fun c_8 => ?_)
        · skip
          have c_8 := bI_f c_8
          refine lv_iconst (v := 0) hx hb dX9_kinds_32 (by decide) ?_
          exact m_iret X hr hlk hw hS (Nat.le_of_ble_eq_true rfl) (Nat.le_of_ble_eq_true rfl) ⟨by clear hk hI hb hx hl hS hw hnm hlk hr X; first | rfl | (simp_all [bI, k_kinds]; done) | (simp_all [bI, k_kinds]; rfl), rfl, rfl⟩ dX9_kinds_33
        · skip
          have c_8 := bI_t c_8
          refine lv_iconst (v := 1) hx hb dX9_kinds_28 (by decide) ?_
          refine lv_goto (tgt := 33) hx hb dX9_kinds_29 (by decide) ?_
          exact m_iret X hr hlk hw hS (Nat.le_of_ble_eq_true rfl) (Nat.le_of_ble_eq_true rfl) ⟨by clear hk hI hb hx hl hS hw hnm hlk hr X; first | rfl | (simp_all [bI, k_kinds]; done) | (simp_all [bI, k_kinds]; rfl), rfl, rfl⟩ dX9_kinds_33
    · skip
      have c_4 := bI_f c_4
      refine lv_iconst (v := (-1)) hx hb dX9_kinds_14 (by decide) ?_
      exact m_iret X hr hlk hw hS (Nat.le_of_ble_eq_true rfl) (Nat.le_of_ble_eq_true rfl) ⟨by clear hk hI hb hx hl hS hw hnm hlk hr X; first | rfl | (simp_all [bI, k_kinds]; done) | (simp_all [bI, k_kinds]; rfl), rfl, rfl⟩ dX9_kinds_15
theorem v_X9_run : mVm yX9_run cX9_run 7 (some .int) 5 := ⟨cd_X9_run, im_X9_run, se_X9_run, ini_X9, by decide, by decide, by decide +kernel⟩
set_option maxHeartbeats 4000000 in
set_option maxRecDepth 100000 in
theorem k_X9_run (Γ : mG) (l : Launch) (L : mI → Nat) (x : CS) (a : Int32) (b : Int32) (d : Int32) (f : Int32) (g : Int32) (hI : CInv x) : mMet Γ l yX9_run cX9_run 7 (some .int) { frames := 7, cells := 0, slots := 0, locals := 165 } [.ref (L (nm 0 0)), .int a, .int b, .int d, .int f, .int g] L (cM Γ L x) (mQi Γ (fun _ L1 M1 => L1 = L ∧ ∃ c1 : CS, M1 = cM Γ L c1 ∧ CInv c1 ∧ kp x c1)) := by
  refine m_start (by decide) (Nat.le_of_ble_eq_true rfl) ?_
  intro p e s m args below meth c A ls X hr hlk hnm hw hS hl
  have hx := X.1.1
  have hb := X.1.2.1
  have hl : lv_has ls 7 [(0, .ref (L (nm 0 0))), (1, .int a), (2, .int b), (3, .int d), (4, .int f), (5, .int g)] := hl
  have hk : kp x x := kp.rf
  refine lv_aload_n hx hb dX9_run_0 rfl (lv_at hl 0 rfl) ?_
  refine s_get (a := 0) (b := 0) (ci := 7) X hw rfl rfl gX9 0 (by decide) fl_X9_10 rfl rfl dX9_run_1 ?_
  refine lv_iload_n hx hb dX9_run_4 rfl (lv_at hl 1 rfl) ?_
  refine lv_i2l (v := a.toInt64) hx hb dX9_run_5 rfl ?_
  refine m_callq (m_runV (i := nm 0 1) (ci := 5) (As := [.long a.toInt64]) (rest := []) X (k_X7_at Γ l L x a.toInt64 hI.1) v_X7_at ml_X9_34 hw hS rfl rfl rfl rfl hl.1 ⟨Nat.le_of_ble_eq_true rfl, Nat.le_of_ble_eq_true rfl⟩ (Nat.le_of_ble_eq_true rfl) ⟨Nat.le_of_ble_eq_true rfl, Nat.le_of_ble_eq_true rfl⟩ dX9_run_6) hS (fun r_1 L1 M1 H locs hp_1 hw hS => ?_)
  obtain ⟨e1, e2, hq_1⟩ := hp_1
  rw [e1, e2] at hw; clear e1 e2
  rcases hq_1 with ⟨rfl, hno_1⟩ | ⟨k_1, hk_1, ev_1, rfl⟩
  · skip
    refine va_rf_none ?_
    refine lv_astoreN (lv' := [(6, .null), (0, .ref (L (nm 0 0))), (1, .int a), (2, .int b), (3, .int d), (4, .int f), (5, .int g)]) hx hb dX9_run_9 hl (by decide) rfl (fun ls hl => ?_)
    refine lv_aloadN hx hb dX9_run_11 (lv_at hl 0 rfl) ?_
    refine lv_ifnonnullN hx hb dX9_run_13 ?_
    refine lv_iconst (v := (-1)) hx hb dX9_run_16 (by decide) ?_
    exact m_iret X hr hlk hw hS (Nat.le_of_ble_eq_true rfl) (Nat.le_of_ble_eq_true rfl) ⟨rfl, _, rfl, hI, hk⟩ dX9_run_17
  · skip
    refine va_rf_some ?_
    have hx_1 : k_1 < cN x := hk.bk hk_1
    have ea_1 := i2l_eq ev_1 (by have := hI.1; omega)
    refine lv_astore (lv' := [(6, .ref (L (nm (k_1 + 2) 0))), (0, .ref (L (nm 0 0))), (1, .int a), (2, .int b), (3, .int d), (4, .int f), (5, .int g)]) hx hb dX9_run_9 hl (by decide) rfl (fun ls hl => ?_)
    refine lv_aload hx hb dX9_run_11 (lv_at hl 0 rfl) ?_
    refine lv_ifnonnull (tgt := 18) hx hb dX9_run_13 (by decide) ?_
    refine lv_aload_n hx hb dX9_run_18 rfl (lv_at hl 1 rfl) ?_
    refine s_get (a := 0) (b := 0) (ci := 7) X hw rfl rfl gX9 0 (by decide) fl_X9_10 rfl rfl dX9_run_19 ?_
    refine lv_iload_n hx hb dX9_run_22 rfl (lv_at hl 2 rfl) ?_
    refine m_calli (m_runV (i := nm 0 1) (ci := 5) (As := [.int a]) (rest := []) X (k_X7_isReady Γ l L x a hI) v_X7_isReady ml_X9_96 hw hS rfl rfl rfl rfl hl.1 ⟨Nat.le_of_ble_eq_true rfl, Nat.le_of_ble_eq_true rfl⟩ (Nat.le_of_ble_eq_true rfl) ⟨Nat.le_of_ble_eq_true rfl, Nat.le_of_ble_eq_true rfl⟩ dX9_run_23) hS (fun r_2 L1 M1 H locs hp_2 hw hS => ?_)
    obtain ⟨⟨t_2, rfl⟩, e1, e2⟩ := hp_2
    rw [e1, e2] at hw; clear e1 e2
    refine lv_if_ne (tgt := 32) hx hb dX9_run_26 (by decide) (fun c_3 => ?_) (fun c_3 => ?_)
    · skip
      have c_3 := bI_t c_3
      refine lv_aload_n hx hb dX9_run_32 rfl (lv_at hl 1 rfl) ?_
      refine s_get (a := 0) (b := 0) (ci := 7) X hw rfl rfl gX9 2 (by decide) fl_X9_26 rfl rfl dX9_run_33 ?_
      refine lv_aload hx hb dX9_run_36 (lv_at hl 0 rfl) ?_
      refine m_callv (m_runV (i := nm 0 10) (ci := 3) (As := [.ref (L (nm (k_1 + 2) 0))]) (rest := []) X (k_X4_prepare Γ l L x k_1 hI (hk.lt hx_1)) v_X4_prepare ml_X9_99 hw hS rfl rfl rfl rfl hl.1 ⟨Nat.le_of_ble_eq_true rfl, Nat.le_of_ble_eq_true rfl⟩ (Nat.le_of_ble_eq_true rfl) ⟨Nat.le_of_ble_eq_true rfl, Nat.le_of_ble_eq_true rfl⟩ dX9_run_38) hS (fun L1 M1 H locs hp_4 hw hS => ?_)
      obtain ⟨e1, c_4, e2, hI_4, hk_4, hdone⟩ := hp_4
      rw [e1, e2] at hw; clear e1 e2
      have hk := hk.tr hk_4
      have hI := hI_4
      refine lv_aload_n hx hb dX9_run_41 rfl (lv_at hl 1 rfl) ?_
      refine s_get (a := 0) (b := 0) (ci := 7) X hw rfl rfl gX9 2 (by decide) fl_X9_26 rfl rfl dX9_run_42 ?_
      refine lv_iload_n hx hb dX9_run_45 rfl (lv_at hl 3 rfl) ?_
      refine lv_iload_n hx hb dX9_run_46 rfl (lv_at hl 4 rfl) ?_
      refine lv_iload hx hb dX9_run_47 (lv_at hl 5 rfl) ?_
      refine lv_iload hx hb dX9_run_49 (lv_at hl 6 rfl) ?_
      refine m_callv (m_runV (i := nm 0 10) (ci := 3) (As := [.int b, .int d, .int f, .int g]) (rest := []) X (k_X4_giveParams Γ l L c_4 b d f g hI) v_X4_giveParams ml_X9_103 hw hS rfl rfl rfl rfl hl.1 ⟨Nat.le_of_ble_eq_true rfl, Nat.le_of_ble_eq_true rfl⟩ (Nat.le_of_ble_eq_true rfl) ⟨Nat.le_of_ble_eq_true rfl, Nat.le_of_ble_eq_true rfl⟩ dX9_run_51) hS (fun L1 M1 H locs hp_5 hw hS => ?_)
      obtain ⟨e1, c_5, e2, hI_5, hk_5⟩ := hp_5
      rw [e1, e2] at hw; clear e1 e2
      have hk := hk.tr hk_5.1.1
      have hI := hI_5
      have hdone := hk_5.1.2.trans hdone
      refine lv_aload_n hx hb dX9_run_54 rfl (lv_at hl 1 rfl) ?_
      refine s_get (a := 0) (b := 0) (ci := 7) X hw rfl rfl gX9 2 (by decide) fl_X9_26 rfl rfl dX9_run_55 ?_
      refine lv_aload_n hx hb dX9_run_58 rfl (lv_at hl 1 rfl) ?_
      refine s_get (a := 0) (b := 0) (ci := 7) X hw rfl rfl gX9 0 (by decide) fl_X9_10 rfl rfl dX9_run_59 ?_
      refine m_calli (m_runV (i := nm 0 10) (ci := 3) (As := [.ref (L (nm 0 1))]) (rest := []) X (k_X4_goOn Γ l L c_5 hI hdone) v_X4_goOn ml_X9_107 hw hS rfl rfl rfl rfl hl.1 ⟨Nat.le_of_ble_eq_true rfl, Nat.le_of_ble_eq_true rfl⟩ (Nat.le_of_ble_eq_true rfl) ⟨Nat.le_of_ble_eq_true rfl, Nat.le_of_ble_eq_true rfl⟩ dX9_run_62) hS (fun r_6 L1 M1 H locs hp_6 hw hS => ?_)
      obtain ⟨e1, c_6, e2, hI_6, hk_6⟩ := hp_6
      rw [e1, e2] at hw; clear e1 e2
      have hk := hk.tr hk_6
      have hI := hI_6
      exact m_iret X hr hlk hw hS (Nat.le_of_ble_eq_true rfl) (Nat.le_of_ble_eq_true rfl) ⟨rfl, _, rfl, hI, hk⟩ dX9_run_65
    · skip
      have c_3 := bI_f c_3
      refine lv_bipush (v := (-2)) hx hb dX9_run_29 (by decide) ?_
      exact m_iret X hr hlk hw hS (Nat.le_of_ble_eq_true rfl) (Nat.le_of_ble_eq_true rfl) ⟨rfl, _, rfl, hI, hk⟩ dX9_run_31
