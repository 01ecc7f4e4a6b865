/-! THE CLASS'S CONSTRUCTORS -/
theorem dvX0 : ∀ j, j < 12 → defaultValue (tyX0 j) = vp_V [.int 0, .int 0, .null, .null, .int 0, .null, .null, .null, .null, .int 0, .null, .int 0] j := by
  intro j hj
  rcases (show j = 0 ∨ j = 1 ∨ j = 2 ∨ j = 3 ∨ j = 4 ∨ j = 5 ∨ j = 6 ∨ j = 7 ∨ j = 8 ∨ j = 9 ∨ j = 10 ∨ j = 11 by omega) with rfl | rfl | rfl | rfl | rfl | rfl | rfl | rfl | rfl | rfl | rfl | rfl <;> rfl
theorem dvX1 : ∀ j, j < 5 → defaultValue (tyX1 j) = vp_V [.null, .null, .null, .null, .int 0] j := by
  intro j hj
  rcases (show j = 0 ∨ j = 1 ∨ j = 2 ∨ j = 3 ∨ j = 4 by omega) with rfl | rfl | rfl | rfl | rfl <;> rfl
theorem dvX2 : ∀ j, j < 6 → defaultValue (tyX2 j) = vp_V [.null, .null, .null, .int 0, .int 0, .int 0] j := by
  intro j hj
  rcases (show j = 0 ∨ j = 1 ∨ j = 2 ∨ j = 3 ∨ j = 4 ∨ j = 5 by omega) with rfl | rfl | rfl | rfl | rfl | rfl <;> rfl
theorem dvX4 : ∀ j, j < 14 → defaultValue (tyX4 j) = vp_V [.null, .null, .null, .null, .null, .null, .int 0, .int 0, .int 0, .int 0, .int 0, .int 0, .int 0, .int 0] j := by
  intro j hj
  rcases (show j = 0 ∨ j = 1 ∨ j = 2 ∨ j = 3 ∨ j = 4 ∨ j = 5 ∨ j = 6 ∨ j = 7 ∨ j = 8 ∨ j = 9 ∨ j = 10 ∨ j = 11 ∨ j = 12 ∨ j = 13 by omega) with rfl | rfl | rfl | rfl | rfl | rfl | rfl | rfl | rfl | rfl | rfl | rfl | rfl | rfl <;> rfl
theorem dvX6 : ∀ j, j < 2 → defaultValue (tyX6 j) = vp_V [.null, .int 0] j := by
  intro j hj
  rcases (show j = 0 ∨ j = 1 by omega) with rfl | rfl <;> rfl
theorem dvX7 : ∀ j, j < 2 → defaultValue (tyX7 j) = vp_V [.null, .int 0] j := by
  intro j hj
  rcases (show j = 0 ∨ j = 1 by omega) with rfl | rfl <;> rfl
theorem dvX8 : ∀ j, j < 3 → defaultValue (tyX8 j) = vp_V [.null, .int 0, .int 0] j := by
  intro j hj
  rcases (show j = 0 ∨ j = 1 ∨ j = 2 by omega) with rfl | rfl | rfl <;> rfl
theorem dvX9 : ∀ j, j < 3 → defaultValue (tyX9 j) = vp_V [.null, .null, .null] j := by
  intro j hj
  rcases (show j = 0 ∨ j = 1 ∨ j = 2 by omega) with rfl | rfl | rfl <;> rfl
theorem dvX10 : ∀ j, j < 35 → defaultValue (tyX10 j) = vp_V [.int 0, .null, .null, .null, .null, .null, .null, .null, .null, .null, .int 0, .null, .null, .int 0, .null, .int 0, .int 0, .null, .null, .null, .null, .null, .int 0, .int 0, .null, .null, .null, .null, .int 0, .int 0, .int 0, .int 0, .int 0, .int 0, .int 0] j := by
  intro j hj
  rcases (show j = 0 ∨ j = 1 ∨ j = 2 ∨ j = 3 ∨ j = 4 ∨ j = 5 ∨ j = 6 ∨ j = 7 ∨ j = 8 ∨ j = 9 ∨ j = 10 ∨ j = 11 ∨ j = 12 ∨ j = 13 ∨ j = 14 ∨ j = 15 ∨ j = 16 ∨ j = 17 ∨ j = 18 ∨ j = 19 ∨ j = 20 ∨ j = 21 ∨ j = 22 ∨ j = 23 ∨ j = 24 ∨ j = 25 ∨ j = 26 ∨ j = 27 ∨ j = 28 ∨ j = 29 ∨ j = 30 ∨ j = 31 ∨ j = 32 ∨ j = 33 ∨ j = 34 by omega) with rfl | rfl | rfl | rfl | rfl | rfl | rfl | rfl | rfl | rfl | rfl | rfl | rfl | rfl | rfl | rfl | rfl | rfl | rfl | rfl | rfl | rfl | rfl | rfl | rfl | rfl | rfl | rfl | rfl | rfl | rfl | rfl | rfl | rfl | rfl <;> rfl
theorem nest_X9_9 : (RX9, 9, yX7_init, "KindJudge") ∈ mNest := List.mem_of_getElem? (i := 0) rfl
theorem nest_X2_19 : (RX2, 19, yX6_init, "KindJudge") ∈ mNest := List.mem_of_getElem? (i := 1) rfl
theorem nest_X2_26 : (RX2, 26, yX8_init, "KindJudge") ∈ mNest := List.mem_of_getElem? (i := 2) rfl
theorem nest_X8_9 : (RX8, 9, yX6_init, "KindJudge") ∈ mNest := List.mem_of_getElem? (i := 3) rfl
theorem nest_X9_25 : (RX9, 25, yX4_init, "KindJudge") ∈ mNest := List.mem_of_getElem? (i := 4) rfl
theorem nest_X4_13 : (RX4, 13, yX1_init, "KindJudge") ∈ mNest := List.mem_of_getElem? (i := 5) rfl
theorem nest_X0_54 : (RX0, 54, yX6_init, "KindJudge") ∈ mNest := List.mem_of_getElem? (i := 6) rfl
theorem i_X6_init : mIm yX6_init cX6_init 1 0 := ⟨cd_X6_init, im_X6_init, ini_X6, rfl, by decide, by decide, by decide +kernel⟩
set_option maxHeartbeats 4000000 in
set_option maxRecDepth 100000 in
theorem k_X6_init (Γ : mG) (l : Launch) (L : mI → Nat) (M : mM) (a b : Nat)  (r0 : Nat) (ha_s : L (nm a b) = r0) (hc_s : mget M (nm a b) = some (.inr (4, [.null, .int 0]))) (hM : 0 < M.2.length)  : mMet Γ l yX6_init cX6_init 1 none { frames := 1, cells := 1, slots := 16, locals := 12 } [.ref r0] L M (mQv Γ (fun L1 M1 => cP L M L1 M1 (inN [(a, b + 1)] []) (inN [(a, b)] []) ∧ mget M1 (nm a b) = some (.inr (4, [.ref (L1 (nm a (b + 1))), .int (-1)])) ∧ mget M1 (nm a (b + 1)) = some (.inl (Γ.2.1 0, 16, .inl (fun _ => 0))))) := by
  refine m_start (by decide) (Nat.le_of_ble_eq_true rfl) ?_
  intro p e s m args below meth c A ls X hr hlk hnm hw hS hl
  have hx := X.1.1
  have hb := X.1.2.1
  have hP : cP L M L M (inN [(a, b + 1)] []) (inN [(a, b)] []) := cP.rf
  have hc_nm_a_b := hc_s
  have hl : lv_has ls 1 [(0, .ref r0)] := hl
  refine lv_aload_n hx hb dX6_init_0 rfl (lv_at hl 0 rfl) ?_
  refine c_objInit X ml_X6_1 hl.1 dX6_init_1 (Nat.le_of_ble_eq_true rfl) (Nat.le_of_ble_eq_true rfl) ?_
  refine lv_aload_n hx hb dX6_init_4 rfl (lv_at hl 0 rfl) ?_
  refine lv_bipush (v := 16) hx hb dX6_init_5 (by decide) ?_
  refine c_newi (N' := 16) X hw hS hM a (b + 1) (by decide) (by decide) (Nat.le_of_ble_eq_true rfl) (Nat.le_of_ble_eq_true rfl) (Nat.le_of_ble_eq_true rfl) dX6_init_7 (fun q_1 L_1 M_1 H hq_1 hL_1 u_1 hw hS => ?_)
  have hc_nm_a_b_1 := u_1.1
  have ha_nm_a_b_1 := hq_1
  have hc_nm_a_b := (u_1.2.1 (nm a b) (nm_ne2 (by omega))).trans hc_nm_a_b
  have ha_nm_a_b : _ = r0 := (hL_1 (nm a b) (nm_ne2 (by omega))).trans ha_s
  have hM := u_1.2.2 hM
  have hP := hP.new u_1 hL_1 (by first | rfl | simp [inN])
  refine c_putF (i := nm a b) (ty := tyX6 0) (fs1 := [.ref q_1, .int 0]) X hw hS ha_nm_a_b hc_nm_a_b rfl gX6 tyX6 tyX6_ok nmX6 0 (by decide) fl_X6_9 rfl rfl hnm rfl (tyX6_ok 0 (by decide)) rfl rfl (show 0 < 2 by decide) rfl dX6_init_9 (fun M_2 H locs u_2 hw hS => ?_)
  have hc_nm_a_b := u_2.1
  have hc_nm_a_b_1 := (u_2.2.1 (nm a (b + 1)) (nm_ne2 (by omega))).trans hc_nm_a_b_1
  have hM := u_2.2.2 hM
  have hP := hP.up u_2 (by first | rfl | simp [inN])
  refine lv_aload_n hx hb dX6_init_12 rfl (lv_at hl 0 rfl) ?_
  refine lv_iconst (v := (-1)) hx hb dX6_init_13 (by decide) ?_
  refine c_put (i := nm a b) (ty := tyX6 1) (fs1 := [.ref q_1, .int (-1)]) X hw hS ha_nm_a_b hc_nm_a_b rfl gX6 tyX6 tyX6_ok nmX6 1 (by decide) fl_X6_13 rfl rfl (tyX6_ok 1 (by decide)) rfl rfl (show 1 < 2 by decide) rfl dX6_init_14 (fun M_3 H locs u_3 hw hS => ?_)
  have hc_nm_a_b := u_3.1
  have hc_nm_a_b_1 := (u_3.2.1 (nm a (b + 1)) (nm_ne2 (by omega))).trans hc_nm_a_b_1
  have hM := u_3.2.2 hM
  have hP := hP.up u_3 (by first | rfl | simp [inN])
  exact m_vret X hr hlk hw hS (Nat.le_of_ble_eq_true rfl) (Nat.le_of_ble_eq_true rfl) ⟨hP, by rw [ha_nm_a_b_1]; exact hc_nm_a_b, by exact hc_nm_a_b_1⟩ dX6_init_17
theorem i_X8_init : mIm yX8_init cX8_init 1 0 := ⟨cd_X8_init, im_X8_init, ini_X8, rfl, by decide, by decide, by decide +kernel⟩
set_option maxHeartbeats 4000000 in
set_option maxRecDepth 100000 in
theorem k_X8_init (Γ : mG) (l : Launch) (L : mI → Nat) (M : mM)   (r0 : Nat) (ha_s : L (nm 0 7) = r0) (hc_s : mget M (nm 0 7) = some (.inr (6, [.null, .int 0, .int 0]))) (hM : 0 < M.2.length)  : mMet Γ l yX8_init cX8_init 1 none { frames := 2, cells := 2, slots := 18, locals := 32 } [.ref r0] L M (mQv Γ (fun L1 M1 => cP L M L1 M1 (inN [(0, 8), (0, 9)] []) (inN [(0, 7)] []) ∧ mget M1 (nm 0 7) = some (.inr (6, [.ref (L1 (nm 0 8)), .int 0, .int 0])) ∧ mget M1 (nm 0 8) = some (.inr (4, [.ref (L1 (nm 0 9)), .int (-1)])) ∧ mget M1 (nm 0 9) = some (.inl (Γ.2.1 0, 16, .inl (fun _ => 0))))) := by
  refine m_start (by decide) (Nat.le_of_ble_eq_true rfl) ?_
  intro p e s m args below meth c A ls X hr hlk hnm hw hS hl
  have hx := X.1.1
  have hb := X.1.2.1
  have hP : cP L M L M (inN [(0, 8), (0, 9)] []) (inN [(0, 7)] []) := cP.rf
  have hc_nm_0_7 := hc_s
  have hl : lv_has ls 1 [(0, .ref r0)] := hl
  refine lv_aload_n hx hb dX8_init_0 rfl (lv_at hl 0 rfl) ?_
  refine c_objInit X ml_X8_1 hl.1 dX8_init_1 (Nat.le_of_ble_eq_true rfl) (Nat.le_of_ble_eq_true rfl) ?_
  refine lv_aload_n hx hb dX8_init_4 rfl (lv_at hl 0 rfl) ?_
  refine c_new (ci := 4) (fs := [.null, .int 0]) X hw hS hM 0 8 rfl gX6 tyX6 tyX6_ok cl_X8_7 ins_X6 ini_X6 dvX6 (Nat.le_of_ble_eq_true rfl) (Nat.le_of_ble_eq_true rfl) dX8_init_5 (fun q_1 L_1 M_1 H hq_1 hL_1 u_1 hw hS => ?_)
  have hc_nm_0_8 := u_1.1
  have ha_nm_0_8 := hq_1
  have hc_nm_0_7 := (u_1.2.1 (nm 0 7) (nm_ne2 (by omega))).trans hc_nm_0_7
  have ha_nm_0_7 : _ = r0 := (hL_1 (nm 0 7) (nm_ne2 (by omega))).trans ha_s
  have hM := u_1.2.2 hM
  have hP := hP.new u_1 hL_1 (by first | rfl | simp [inN])
  refine lv_dup hx hb dX8_init_8 rfl ?_
  refine m_callv (m_runIN (host := "KindJudge") (As := []) (rest := [.ref q_1, .ref r0]) X (k_X6_init Γ l L_1 M_1 0 8 q_1 ha_nm_0_8 hc_nm_0_8 hM) i_X6_init nest_X8_9 hw hS rfl hl.1 ⟨Nat.le_of_ble_eq_true rfl, Nat.le_of_ble_eq_true rfl⟩ (Nat.le_of_ble_eq_true rfl) ⟨Nat.le_of_ble_eq_true rfl, Nat.le_of_ble_eq_true rfl⟩ dX8_init_9) hS (fun L_2 M_2 H locs hp_2 hw hS => ?_)
  obtain ⟨k_2, hc_nm_0_8, hc_nm_0_9⟩ := hp_2
  have ha_nm_0_7 : _ = r0 := (k_2.1 (nm 0 7) rfl).trans ha_nm_0_7
  have ha_nm_0_8 : _ = q_1 := (k_2.1 (nm 0 8) rfl).trans ha_nm_0_8
  have hc_nm_0_7 := (k_2.2.1 (nm 0 7) rfl rfl).trans hc_nm_0_7
  have hM := k_2.2.2 hM
  have hP := hP.call k_2 (fun _ h => inN_sub rfl rfl h) (fun _ h _ => inN_sub rfl rfl h)
  refine c_putF (i := nm 0 7) (ty := tyX8 0) (fs1 := [.ref q_1, .int 0, .int 0]) X hw hS ha_nm_0_7 hc_nm_0_7 rfl gX8 tyX8 tyX8_ok nmX8 0 (by decide) fl_X8_10 rfl rfl hnm rfl (tyX8_ok 0 (by decide)) rfl rfl (show 0 < 3 by decide) rfl dX8_init_12 (fun M_3 H locs u_3 hw hS => ?_)
  have hc_nm_0_7 := u_3.1
  have hc_nm_0_8 := (u_3.2.1 (nm 0 8) (nm_ne2 (by omega))).trans hc_nm_0_8
  have hc_nm_0_9 := (u_3.2.1 (nm 0 9) (nm_ne2 (by omega))).trans hc_nm_0_9
  have hM := u_3.2.2 hM
  have hP := hP.up u_3 (by first | rfl | simp [inN])
  exact m_vret X hr hlk hw hS (Nat.le_of_ble_eq_true rfl) (Nat.le_of_ble_eq_true rfl) ⟨hP, by rw [ha_nm_0_8]; exact hc_nm_0_7, by exact hc_nm_0_8, by exact hc_nm_0_9⟩ dX8_init_15
theorem i_X7_init : mIm yX7_init cX7_init 1 0 := ⟨cd_X7_init, im_X7_init, ini_X7, rfl, by decide, by decide, by decide +kernel⟩
set_option maxHeartbeats 4000000 in
set_option maxRecDepth 100000 in
theorem k_X7_init (Γ : mG) (l : Launch) (L : mI → Nat) (M : mM)   (r0 : Nat) (ha_s : L (nm 0 1) = r0) (hc_s : mget M (nm 0 1) = some (.inr (5, [.null, .int 0]))) (hM : 0 < M.2.length)  : mMet Γ l yX7_init cX7_init 1 none { frames := 1, cells := 1, slots := 8, locals := 12 } [.ref r0] L M (mQv Γ (fun L1 M1 => cP L M L1 M1 (inN [(0, 2)] []) (inN [(0, 1)] []) ∧ mget M1 (nm 0 1) = some (.inr (5, [.ref (L1 (nm 0 2)), .int 0])) ∧ mget M1 (nm 0 2) = some (.inl (Γ.2.1 3, 8, .inr (.inr (.inr (.inr (fun _ => none)))))))) := by
  refine m_start (by decide) (Nat.le_of_ble_eq_true rfl) ?_
  intro p e s m args below meth c A ls X hr hlk hnm hw hS hl
  have hx := X.1.1
  have hb := X.1.2.1
  have hP : cP L M L M (inN [(0, 2)] []) (inN [(0, 1)] []) := cP.rf
  have hc_nm_0_1 := hc_s
  have hl : lv_has ls 1 [(0, .ref r0)] := hl
  refine lv_aload_n hx hb dX7_init_0 rfl (lv_at hl 0 rfl) ?_
  refine c_objInit X ml_X7_3 hl.1 dX7_init_1 (Nat.le_of_ble_eq_true rfl) (Nat.le_of_ble_eq_true rfl) ?_
  refine lv_aload_n hx hb dX7_init_4 rfl (lv_at hl 0 rfl) ?_
  refine lv_bipush (v := 8) hx hb dX7_init_5 (by decide) ?_
  refine c_newq (t := 3) (N' := 8) X hw hS hM 0 2 rfl cl_X7_11 X.2.1.2.2.1 (by decide) (by decide) (Nat.le_of_ble_eq_true rfl) (Nat.le_of_ble_eq_true rfl) (Nat.le_of_ble_eq_true rfl) dX7_init_7 (fun q_1 L_1 M_1 H hq_1 hL_1 u_1 hw hS => ?_)
  have hc_nm_0_2 := u_1.1
  have ha_nm_0_2 := hq_1
  have hc_nm_0_1 := (u_1.2.1 (nm 0 1) (nm_ne2 (by omega))).trans hc_nm_0_1
  have ha_nm_0_1 : _ = r0 := (hL_1 (nm 0 1) (nm_ne2 (by omega))).trans ha_s
  have hM := u_1.2.2 hM
  have hP := hP.new u_1 hL_1 (by first | rfl | simp [inN])
  refine c_putF (i := nm 0 1) (ty := tyX7 0) (fs1 := [.ref q_1, .int 0]) X hw hS ha_nm_0_1 hc_nm_0_1 rfl gX7 tyX7 tyX7_ok nmX7 0 (by decide) fl_X7_13 rfl rfl hnm rfl (tyX7_ok 0 (by decide)) rfl rfl (show 0 < 2 by decide) rfl dX7_init_10 (fun M_2 H locs u_2 hw hS => ?_)
  have hc_nm_0_1 := u_2.1
  have hc_nm_0_2 := (u_2.2.1 (nm 0 2) (nm_ne2 (by omega))).trans hc_nm_0_2
  have hM := u_2.2.2 hM
  have hP := hP.up u_2 (by first | rfl | simp [inN])
  exact m_vret X hr hlk hw hS (Nat.le_of_ble_eq_true rfl) (Nat.le_of_ble_eq_true rfl) ⟨hP, by rw [ha_nm_0_2]; exact hc_nm_0_1, by exact hc_nm_0_2⟩ dX7_init_13
theorem i_X1_init : mIm yX1_init cX1_init 1 0 := ⟨cd_X1_init, im_X1_init, ini_X1, rfl, by decide, by decide, by decide +kernel⟩
set_option maxHeartbeats 4000000 in
set_option maxRecDepth 100000 in
theorem k_X1_init (Γ : mG) (l : Launch) (L : mI → Nat) (M : mM)   (r0 : Nat) (ha_s : L (nm 0 11) = r0) (hc_s : mget M (nm 0 11) = some (.inr (1, [.null, .null, .null, .null, .int 0]))) (hM : 0 < M.2.length)  : mMet Γ l yX1_init cX1_init 1 none { frames := 1, cells := 4, slots := 693, locals := 12 } [.ref r0] L M (mQv Γ (fun L1 M1 => cP L M L1 M1 (inN [(0, 12), (0, 13), (0, 14), (0, 15)] []) (inN [(0, 11)] []) ∧ mget M1 (nm 0 11) = some (.inr (1, [.ref (L1 (nm 0 12)), .ref (L1 (nm 0 13)), .ref (L1 (nm 0 14)), .ref (L1 (nm 0 15)), .int 0])) ∧ mget M1 (nm 0 12) = some (.inl (Γ.2.1 0, 21, .inl (fun _ => 0))) ∧ mget M1 (nm 0 13) = some (.inl (Γ.2.1 0, 21, .inl (fun _ => 0))) ∧ mget M1 (nm 0 14) = some (.inl (Γ.2.1 0, 21, .inl (fun _ => 0))) ∧ mget M1 (nm 0 15) = some (.inl (Γ.2.1 0, 630, .inl (fun _ => 0))))) := by
  refine m_start (by decide) (Nat.le_of_ble_eq_true rfl) ?_
  intro p e s m args below meth c A ls X hr hlk hnm hw hS hl
  have hx := X.1.1
  have hb := X.1.2.1
  have hP : cP L M L M (inN [(0, 12), (0, 13), (0, 14), (0, 15)] []) (inN [(0, 11)] []) := cP.rf
  have hc_nm_0_11 := hc_s
  have hl : lv_has ls 1 [(0, .ref r0)] := hl
  refine lv_aload_n hx hb dX1_init_0 rfl (lv_at hl 0 rfl) ?_
  refine c_objInit X ml_X1_1 hl.1 dX1_init_1 (Nat.le_of_ble_eq_true rfl) (Nat.le_of_ble_eq_true rfl) ?_
  refine lv_aload_n hx hb dX1_init_4 rfl (lv_at hl 0 rfl) ?_
  refine lv_bipush (v := 21) hx hb dX1_init_5 (by decide) ?_
  refine c_newi (N' := 21) X hw hS hM 0 12 (by decide) (by decide) (Nat.le_of_ble_eq_true rfl) (Nat.le_of_ble_eq_true rfl) (Nat.le_of_ble_eq_true rfl) dX1_init_7 (fun q_1 L_1 M_1 H hq_1 hL_1 u_1 hw hS => ?_)
  have hc_nm_0_12 := u_1.1
  have ha_nm_0_12 := hq_1
  have hc_nm_0_11 := (u_1.2.1 (nm 0 11) (nm_ne2 (by omega))).trans hc_nm_0_11
  have ha_nm_0_11 : _ = r0 := (hL_1 (nm 0 11) (nm_ne2 (by omega))).trans ha_s
  have hM := u_1.2.2 hM
  have hP := hP.new u_1 hL_1 (by first | rfl | simp [inN])
  refine c_putF (i := nm 0 11) (ty := tyX1 0) (fs1 := [.ref q_1, .null, .null, .null, .int 0]) X hw hS ha_nm_0_11 hc_nm_0_11 rfl gX1 tyX1 tyX1_ok nmX1 0 (by decide) fl_X1_9 rfl rfl hnm rfl (tyX1_ok 0 (by decide)) rfl rfl (show 0 < 5 by decide) rfl dX1_init_9 (fun M_2 H locs u_2 hw hS => ?_)
  have hc_nm_0_11 := u_2.1
  have hc_nm_0_12 := (u_2.2.1 (nm 0 12) (nm_ne2 (by omega))).trans hc_nm_0_12
  have hM := u_2.2.2 hM
  have hP := hP.up u_2 (by first | rfl | simp [inN])
  refine lv_aload_n hx hb dX1_init_12 rfl (lv_at hl 0 rfl) ?_
  refine lv_bipush (v := 21) hx hb dX1_init_13 (by decide) ?_
  refine c_newi (N' := 21) X hw hS hM 0 13 (by decide) (by decide) (Nat.le_of_ble_eq_true rfl) (Nat.le_of_ble_eq_true rfl) (Nat.le_of_ble_eq_true rfl) dX1_init_15 (fun q_3 L_3 M_3 H hq_3 hL_3 u_3 hw hS => ?_)
  have hc_nm_0_13 := u_3.1
  have ha_nm_0_13 := hq_3
  have hc_nm_0_11 := (u_3.2.1 (nm 0 11) (nm_ne2 (by omega))).trans hc_nm_0_11
  have hc_nm_0_12 := (u_3.2.1 (nm 0 12) (nm_ne2 (by omega))).trans hc_nm_0_12
  have ha_nm_0_11 : _ = r0 := (hL_3 (nm 0 11) (nm_ne2 (by omega))).trans ha_nm_0_11
  have ha_nm_0_12 : _ = q_1 := (hL_3 (nm 0 12) (nm_ne2 (by omega))).trans ha_nm_0_12
  have hM := u_3.2.2 hM
  have hP := hP.new u_3 hL_3 (by first | rfl | simp [inN])
  refine c_putF (i := nm 0 11) (ty := tyX1 1) (fs1 := [.ref q_1, .ref q_3, .null, .null, .int 0]) X hw hS ha_nm_0_11 hc_nm_0_11 rfl gX1 tyX1 tyX1_ok nmX1 1 (by decide) fl_X1_13 rfl rfl hnm rfl (tyX1_ok 1 (by decide)) rfl rfl (show 1 < 5 by decide) rfl dX1_init_17 (fun M_4 H locs u_4 hw hS => ?_)
  have hc_nm_0_11 := u_4.1
  have hc_nm_0_12 := (u_4.2.1 (nm 0 12) (nm_ne2 (by omega))).trans hc_nm_0_12
  have hc_nm_0_13 := (u_4.2.1 (nm 0 13) (nm_ne2 (by omega))).trans hc_nm_0_13
  have hM := u_4.2.2 hM
  have hP := hP.up u_4 (by first | rfl | simp [inN])
  refine lv_aload_n hx hb dX1_init_20 rfl (lv_at hl 0 rfl) ?_
  refine lv_bipush (v := 21) hx hb dX1_init_21 (by decide) ?_
  refine c_newi (N' := 21) X hw hS hM 0 14 (by decide) (by decide) (Nat.le_of_ble_eq_true rfl) (Nat.le_of_ble_eq_true rfl) (Nat.le_of_ble_eq_true rfl) dX1_init_23 (fun q_5 L_5 M_5 H hq_5 hL_5 u_5 hw hS => ?_)
  have hc_nm_0_14 := u_5.1
  have ha_nm_0_14 := hq_5
  have hc_nm_0_11 := (u_5.2.1 (nm 0 11) (nm_ne2 (by omega))).trans hc_nm_0_11
  have hc_nm_0_12 := (u_5.2.1 (nm 0 12) (nm_ne2 (by omega))).trans hc_nm_0_12
  have hc_nm_0_13 := (u_5.2.1 (nm 0 13) (nm_ne2 (by omega))).trans hc_nm_0_13
  have ha_nm_0_11 : _ = r0 := (hL_5 (nm 0 11) (nm_ne2 (by omega))).trans ha_nm_0_11
  have ha_nm_0_12 : _ = q_1 := (hL_5 (nm 0 12) (nm_ne2 (by omega))).trans ha_nm_0_12
  have ha_nm_0_13 : _ = q_3 := (hL_5 (nm 0 13) (nm_ne2 (by omega))).trans ha_nm_0_13
  have hM := u_5.2.2 hM
  have hP := hP.new u_5 hL_5 (by first | rfl | simp [inN])
  refine c_putF (i := nm 0 11) (ty := tyX1 2) (fs1 := [.ref q_1, .ref q_3, .ref q_5, .null, .int 0]) X hw hS ha_nm_0_11 hc_nm_0_11 rfl gX1 tyX1 tyX1_ok nmX1 2 (by decide) fl_X1_16 rfl rfl hnm rfl (tyX1_ok 2 (by decide)) rfl rfl (show 2 < 5 by decide) rfl dX1_init_25 (fun M_6 H locs u_6 hw hS => ?_)
  have hc_nm_0_11 := u_6.1
  have hc_nm_0_12 := (u_6.2.1 (nm 0 12) (nm_ne2 (by omega))).trans hc_nm_0_12
  have hc_nm_0_13 := (u_6.2.1 (nm 0 13) (nm_ne2 (by omega))).trans hc_nm_0_13
  have hc_nm_0_14 := (u_6.2.1 (nm 0 14) (nm_ne2 (by omega))).trans hc_nm_0_14
  have hM := u_6.2.2 hM
  have hP := hP.up u_6 (by first | rfl | simp [inN])
  refine lv_aload_n hx hb dX1_init_28 rfl (lv_at hl 0 rfl) ?_
  refine lv_sipush (v := 630) hx hb dX1_init_29 (by decide) ?_
  refine c_newi (N' := 630) X hw hS hM 0 15 (by decide) (by decide) (Nat.le_of_ble_eq_true rfl) (Nat.le_of_ble_eq_true rfl) (Nat.le_of_ble_eq_true rfl) dX1_init_32 (fun q_7 L_7 M_7 H hq_7 hL_7 u_7 hw hS => ?_)
  have hc_nm_0_15 := u_7.1
  have ha_nm_0_15 := hq_7
  have hc_nm_0_11 := (u_7.2.1 (nm 0 11) (nm_ne2 (by omega))).trans hc_nm_0_11
  have hc_nm_0_12 := (u_7.2.1 (nm 0 12) (nm_ne2 (by omega))).trans hc_nm_0_12
  have hc_nm_0_13 := (u_7.2.1 (nm 0 13) (nm_ne2 (by omega))).trans hc_nm_0_13
  have hc_nm_0_14 := (u_7.2.1 (nm 0 14) (nm_ne2 (by omega))).trans hc_nm_0_14
  have ha_nm_0_11 : _ = r0 := (hL_7 (nm 0 11) (nm_ne2 (by omega))).trans ha_nm_0_11
  have ha_nm_0_12 : _ = q_1 := (hL_7 (nm 0 12) (nm_ne2 (by omega))).trans ha_nm_0_12
  have ha_nm_0_13 : _ = q_3 := (hL_7 (nm 0 13) (nm_ne2 (by omega))).trans ha_nm_0_13
  have ha_nm_0_14 : _ = q_5 := (hL_7 (nm 0 14) (nm_ne2 (by omega))).trans ha_nm_0_14
  have hM := u_7.2.2 hM
  have hP := hP.new u_7 hL_7 (by first | rfl | simp [inN])
  refine c_putF (i := nm 0 11) (ty := tyX1 3) (fs1 := [.ref q_1, .ref q_3, .ref q_5, .ref q_7, .int 0]) X hw hS ha_nm_0_11 hc_nm_0_11 rfl gX1 tyX1 tyX1_ok nmX1 3 (by decide) fl_X1_19 rfl rfl hnm rfl (tyX1_ok 3 (by decide)) rfl rfl (show 3 < 5 by decide) rfl dX1_init_34 (fun M_8 H locs u_8 hw hS => ?_)
  have hc_nm_0_11 := u_8.1
  have hc_nm_0_12 := (u_8.2.1 (nm 0 12) (nm_ne2 (by omega))).trans hc_nm_0_12
  have hc_nm_0_13 := (u_8.2.1 (nm 0 13) (nm_ne2 (by omega))).trans hc_nm_0_13
  have hc_nm_0_14 := (u_8.2.1 (nm 0 14) (nm_ne2 (by omega))).trans hc_nm_0_14
  have hc_nm_0_15 := (u_8.2.1 (nm 0 15) (nm_ne2 (by omega))).trans hc_nm_0_15
  have hM := u_8.2.2 hM
  have hP := hP.up u_8 (by first | rfl | simp [inN])
  exact m_vret X hr hlk hw hS (Nat.le_of_ble_eq_true rfl) (Nat.le_of_ble_eq_true rfl) ⟨hP, by rw [ha_nm_0_12, ha_nm_0_13, ha_nm_0_14, ha_nm_0_15]; exact hc_nm_0_11, by exact hc_nm_0_12, by exact hc_nm_0_13, by exact hc_nm_0_14, by exact hc_nm_0_15⟩ dX1_init_37
theorem i_X4_init : mIm yX4_init cX4_init 1 0 := ⟨cd_X4_init, im_X4_init, ini_X4, rfl, by decide, by decide, by decide +kernel⟩
set_option maxHeartbeats 4000000 in
set_option maxRecDepth 100000 in
theorem k_X4_init (Γ : mG) (l : Launch) (L : mI → Nat) (M : mM)   (r0 : Nat) (ha_s : L (nm 0 10) = r0) (hc_s : mget M (nm 0 10) = some (.inr (3, [.null, .null, .null, .null, .null, .null, .int 0, .int 0, .int 0, .int 0, .int 0, .int 0, .int 0, .int 0]))) (hM : 0 < M.2.length)  : mMet Γ l yX4_init cX4_init 1 none { frames := 2, cells := 10, slots := 850, locals := 32 } [.ref r0] L M (mQv Γ (fun L1 M1 => cP L M L1 M1 (inN [(0, 11), (0, 12), (0, 13), (0, 14), (0, 15), (0, 16), (0, 17), (0, 18), (0, 19), (0, 20)] []) (inN [(0, 10)] []) ∧ mget M1 (nm 0 10) = some (.inr (3, [.ref (L1 (nm 0 11)), .ref (L1 (nm 0 16)), .ref (L1 (nm 0 17)), .ref (L1 (nm 0 18)), .ref (L1 (nm 0 19)), .ref (L1 (nm 0 20)), .int 0, .int 0, .int 0, .int 0, .int 0, .int 0, .int (-99999999), .int (-99999999)])) ∧ mget M1 (nm 0 11) = some (.inr (1, [.ref (L1 (nm 0 12)), .ref (L1 (nm 0 13)), .ref (L1 (nm 0 14)), .ref (L1 (nm 0 15)), .int 0])) ∧ mget M1 (nm 0 12) = some (.inl (Γ.2.1 0, 21, .inl (fun _ => 0))) ∧ mget M1 (nm 0 13) = some (.inl (Γ.2.1 0, 21, .inl (fun _ => 0))) ∧ mget M1 (nm 0 14) = some (.inl (Γ.2.1 0, 21, .inl (fun _ => 0))) ∧ mget M1 (nm 0 15) = some (.inl (Γ.2.1 0, 630, .inl (fun _ => 0))) ∧ mget M1 (nm 0 16) = some (.inl (Γ.2.1 3, 8, .inr (.inr (.inr (.inr (fun _ => none)))))) ∧ mget M1 (nm 0 17) = some (.inl (Γ.2.1 0, 8, .inl (fun _ => 0))) ∧ mget M1 (nm 0 18) = some (.inl (Γ.2.1 0, 8, .inl (fun _ => 0))) ∧ mget M1 (nm 0 19) = some (.inl (Γ.2.1 1, 64, .inr (.inl (fun _ => 0)))) ∧ mget M1 (nm 0 20) = some (.inl (Γ.2.1 1, 64, .inr (.inl (fun _ => 0)))))) := by
  refine m_start (by decide) (Nat.le_of_ble_eq_true rfl) ?_
  intro p e s m args below meth c A ls X hr hlk hnm hw hS hl
  have hx := X.1.1
  have hb := X.1.2.1
  have hP : cP L M L M (inN [(0, 11), (0, 12), (0, 13), (0, 14), (0, 15), (0, 16), (0, 17), (0, 18), (0, 19), (0, 20)] []) (inN [(0, 10)] []) := cP.rf
  have hc_nm_0_10 := hc_s
  have hl : lv_has ls 1 [(0, .ref r0)] := hl
  refine lv_aload_n hx hb dX4_init_0 rfl (lv_at hl 0 rfl) ?_
  refine c_objInit X ml_X4_5 hl.1 dX4_init_1 (Nat.le_of_ble_eq_true rfl) (Nat.le_of_ble_eq_true rfl) ?_
  refine lv_aload_n hx hb dX4_init_4 rfl (lv_at hl 0 rfl) ?_
  refine c_new (ci := 1) (fs := [.null, .null, .null, .null, .int 0]) X hw hS hM 0 11 rfl gX1 tyX1 tyX1_ok cl_X4_11 ins_X1 ini_X1 dvX1 (Nat.le_of_ble_eq_true rfl) (Nat.le_of_ble_eq_true rfl) dX4_init_5 (fun q_1 L_1 M_1 H hq_1 hL_1 u_1 hw hS => ?_)
  have hc_nm_0_11 := u_1.1
  have ha_nm_0_11 := hq_1
  have hc_nm_0_10 := (u_1.2.1 (nm 0 10) (nm_ne2 (by omega))).trans hc_nm_0_10
  have ha_nm_0_10 : _ = r0 := (hL_1 (nm 0 10) (nm_ne2 (by omega))).trans ha_s
  have hM := u_1.2.2 hM
  have hP := hP.new u_1 hL_1 (by first | rfl | simp [inN])
  refine lv_dup hx hb dX4_init_8 rfl ?_
  refine m_callv (m_runIN (host := "KindJudge") (As := []) (rest := [.ref q_1, .ref r0]) X (k_X1_init Γ l L_1 M_1 q_1 ha_nm_0_11 hc_nm_0_11 hM) i_X1_init nest_X4_13 hw hS rfl hl.1 ⟨Nat.le_of_ble_eq_true rfl, Nat.le_of_ble_eq_true rfl⟩ (Nat.le_of_ble_eq_true rfl) ⟨Nat.le_of_ble_eq_true rfl, Nat.le_of_ble_eq_true rfl⟩ dX4_init_9) hS (fun L_2 M_2 H locs hp_2 hw hS => ?_)
  obtain ⟨k_2, hc_nm_0_11, hc_nm_0_12, hc_nm_0_13, hc_nm_0_14, hc_nm_0_15⟩ := hp_2
  have ha_nm_0_10 : _ = r0 := (k_2.1 (nm 0 10) rfl).trans ha_nm_0_10
  have ha_nm_0_11 : _ = q_1 := (k_2.1 (nm 0 11) rfl).trans ha_nm_0_11
  have hc_nm_0_10 := (k_2.2.1 (nm 0 10) rfl rfl).trans hc_nm_0_10
  have hM := k_2.2.2 hM
  have hP := hP.call k_2 (fun _ h => inN_sub rfl rfl h) (fun _ h _ => inN_sub rfl rfl h)
  refine c_putF (i := nm 0 10) (ty := tyX4 0) (fs1 := [.ref q_1, .null, .null, .null, .null, .null, .int 0, .int 0, .int 0, .int 0, .int 0, .int 0, .int 0, .int 0]) X hw hS ha_nm_0_10 hc_nm_0_10 rfl gX4 tyX4 tyX4_ok nmX4 0 (by decide) fl_X4_14 rfl rfl hnm rfl (tyX4_ok 0 (by decide)) rfl rfl (show 0 < 14 by decide) rfl dX4_init_12 (fun M_3 H locs u_3 hw hS => ?_)
  have hc_nm_0_10 := u_3.1
  have hc_nm_0_11 := (u_3.2.1 (nm 0 11) (nm_ne2 (by omega))).trans hc_nm_0_11
  have hc_nm_0_12 := (u_3.2.1 (nm 0 12) (nm_ne2 (by omega))).trans hc_nm_0_12
  have hc_nm_0_13 := (u_3.2.1 (nm 0 13) (nm_ne2 (by omega))).trans hc_nm_0_13
  have hc_nm_0_14 := (u_3.2.1 (nm 0 14) (nm_ne2 (by omega))).trans hc_nm_0_14
  have hc_nm_0_15 := (u_3.2.1 (nm 0 15) (nm_ne2 (by omega))).trans hc_nm_0_15
  have hM := u_3.2.2 hM
  have hP := hP.up u_3 (by first | rfl | simp [inN])
  refine lv_aload_n hx hb dX4_init_15 rfl (lv_at hl 0 rfl) ?_
  refine lv_bipush (v := 8) hx hb dX4_init_16 (by decide) ?_
  refine c_newq (t := 3) (N' := 8) X hw hS hM 0 16 rfl cl_X4_20 X.2.1.2.2.1 (by decide) (by decide) (Nat.le_of_ble_eq_true rfl) (Nat.le_of_ble_eq_true rfl) (Nat.le_of_ble_eq_true rfl) dX4_init_18 (fun q_4 L_4 M_4 H hq_4 hL_4 u_4 hw hS => ?_)
  have hc_nm_0_16 := u_4.1
  have ha_nm_0_16 := hq_4
  have hc_nm_0_10 := (u_4.2.1 (nm 0 10) (nm_ne2 (by omega))).trans hc_nm_0_10
  have hc_nm_0_11 := (u_4.2.1 (nm 0 11) (nm_ne2 (by omega))).trans hc_nm_0_11
  have hc_nm_0_12 := (u_4.2.1 (nm 0 12) (nm_ne2 (by omega))).trans hc_nm_0_12
  have hc_nm_0_13 := (u_4.2.1 (nm 0 13) (nm_ne2 (by omega))).trans hc_nm_0_13
  have hc_nm_0_14 := (u_4.2.1 (nm 0 14) (nm_ne2 (by omega))).trans hc_nm_0_14
  have hc_nm_0_15 := (u_4.2.1 (nm 0 15) (nm_ne2 (by omega))).trans hc_nm_0_15
  have ha_nm_0_10 : _ = r0 := (hL_4 (nm 0 10) (nm_ne2 (by omega))).trans ha_nm_0_10
  have ha_nm_0_11 : _ = q_1 := (hL_4 (nm 0 11) (nm_ne2 (by omega))).trans ha_nm_0_11
  have ha_nm_0_12 : _ = L_2 (nm 0 12) := (hL_4 (nm 0 12) (nm_ne2 (by omega))).trans rfl
  have ha_nm_0_13 : _ = L_2 (nm 0 13) := (hL_4 (nm 0 13) (nm_ne2 (by omega))).trans rfl
  have ha_nm_0_14 : _ = L_2 (nm 0 14) := (hL_4 (nm 0 14) (nm_ne2 (by omega))).trans rfl
  have ha_nm_0_15 : _ = L_2 (nm 0 15) := (hL_4 (nm 0 15) (nm_ne2 (by omega))).trans rfl
  have hM := u_4.2.2 hM
  have hP := hP.new u_4 hL_4 (by first | rfl | simp [inN])
  refine c_putF (i := nm 0 10) (ty := tyX4 1) (fs1 := [.ref q_1, .ref q_4, .null, .null, .null, .null, .int 0, .int 0, .int 0, .int 0, .int 0, .int 0, .int 0, .int 0]) X hw hS ha_nm_0_10 hc_nm_0_10 rfl gX4 tyX4 tyX4_ok nmX4 1 (by decide) fl_X4_22 rfl rfl hnm rfl (tyX4_ok 1 (by decide)) rfl rfl (show 1 < 14 by decide) rfl dX4_init_21 (fun M_5 H locs u_5 hw hS => ?_)
  have hc_nm_0_10 := u_5.1
  have hc_nm_0_11 := (u_5.2.1 (nm 0 11) (nm_ne2 (by omega))).trans hc_nm_0_11
  have hc_nm_0_12 := (u_5.2.1 (nm 0 12) (nm_ne2 (by omega))).trans hc_nm_0_12
  have hc_nm_0_13 := (u_5.2.1 (nm 0 13) (nm_ne2 (by omega))).trans hc_nm_0_13
  have hc_nm_0_14 := (u_5.2.1 (nm 0 14) (nm_ne2 (by omega))).trans hc_nm_0_14
  have hc_nm_0_15 := (u_5.2.1 (nm 0 15) (nm_ne2 (by omega))).trans hc_nm_0_15
  have hc_nm_0_16 := (u_5.2.1 (nm 0 16) (nm_ne2 (by omega))).trans hc_nm_0_16
  have hM := u_5.2.2 hM
  have hP := hP.up u_5 (by first | rfl | simp [inN])
  refine lv_aload_n hx hb dX4_init_24 rfl (lv_at hl 0 rfl) ?_
  refine lv_bipush (v := 8) hx hb dX4_init_25 (by decide) ?_
  refine c_newi (N' := 8) X hw hS hM 0 17 (by decide) (by decide) (Nat.le_of_ble_eq_true rfl) (Nat.le_of_ble_eq_true rfl) (Nat.le_of_ble_eq_true rfl) dX4_init_27 (fun q_6 L_6 M_6 H hq_6 hL_6 u_6 hw hS => ?_)
  have hc_nm_0_17 := u_6.1
  have ha_nm_0_17 := hq_6
  have hc_nm_0_10 := (u_6.2.1 (nm 0 10) (nm_ne2 (by omega))).trans hc_nm_0_10
  have hc_nm_0_11 := (u_6.2.1 (nm 0 11) (nm_ne2 (by omega))).trans hc_nm_0_11
  have hc_nm_0_12 := (u_6.2.1 (nm 0 12) (nm_ne2 (by omega))).trans hc_nm_0_12
  have hc_nm_0_13 := (u_6.2.1 (nm 0 13) (nm_ne2 (by omega))).trans hc_nm_0_13
  have hc_nm_0_14 := (u_6.2.1 (nm 0 14) (nm_ne2 (by omega))).trans hc_nm_0_14
  have hc_nm_0_15 := (u_6.2.1 (nm 0 15) (nm_ne2 (by omega))).trans hc_nm_0_15
  have hc_nm_0_16 := (u_6.2.1 (nm 0 16) (nm_ne2 (by omega))).trans hc_nm_0_16
  have ha_nm_0_10 : _ = r0 := (hL_6 (nm 0 10) (nm_ne2 (by omega))).trans ha_nm_0_10
  have ha_nm_0_11 : _ = q_1 := (hL_6 (nm 0 11) (nm_ne2 (by omega))).trans ha_nm_0_11
  have ha_nm_0_12 : _ = L_2 (nm 0 12) := (hL_6 (nm 0 12) (nm_ne2 (by omega))).trans ha_nm_0_12
  have ha_nm_0_13 : _ = L_2 (nm 0 13) := (hL_6 (nm 0 13) (nm_ne2 (by omega))).trans ha_nm_0_13
  have ha_nm_0_14 : _ = L_2 (nm 0 14) := (hL_6 (nm 0 14) (nm_ne2 (by omega))).trans ha_nm_0_14
  have ha_nm_0_15 : _ = L_2 (nm 0 15) := (hL_6 (nm 0 15) (nm_ne2 (by omega))).trans ha_nm_0_15
  have ha_nm_0_16 : _ = q_4 := (hL_6 (nm 0 16) (nm_ne2 (by omega))).trans ha_nm_0_16
  have hM := u_6.2.2 hM
  have hP := hP.new u_6 hL_6 (by first | rfl | simp [inN])
  refine c_putF (i := nm 0 10) (ty := tyX4 2) (fs1 := [.ref q_1, .ref q_4, .ref q_6, .null, .null, .null, .int 0, .int 0, .int 0, .int 0, .int 0, .int 0, .int 0, .int 0]) X hw hS ha_nm_0_10 hc_nm_0_10 rfl gX4 tyX4 tyX4_ok nmX4 2 (by decide) fl_X4_26 rfl rfl hnm rfl (tyX4_ok 2 (by decide)) rfl rfl (show 2 < 14 by decide) rfl dX4_init_29 (fun M_7 H locs u_7 hw hS => ?_)
  have hc_nm_0_10 := u_7.1
  have hc_nm_0_11 := (u_7.2.1 (nm 0 11) (nm_ne2 (by omega))).trans hc_nm_0_11
  have hc_nm_0_12 := (u_7.2.1 (nm 0 12) (nm_ne2 (by omega))).trans hc_nm_0_12
  have hc_nm_0_13 := (u_7.2.1 (nm 0 13) (nm_ne2 (by omega))).trans hc_nm_0_13
  have hc_nm_0_14 := (u_7.2.1 (nm 0 14) (nm_ne2 (by omega))).trans hc_nm_0_14
  have hc_nm_0_15 := (u_7.2.1 (nm 0 15) (nm_ne2 (by omega))).trans hc_nm_0_15
  have hc_nm_0_16 := (u_7.2.1 (nm 0 16) (nm_ne2 (by omega))).trans hc_nm_0_16
  have hc_nm_0_17 := (u_7.2.1 (nm 0 17) (nm_ne2 (by omega))).trans hc_nm_0_17
  have hM := u_7.2.2 hM
  have hP := hP.up u_7 (by first | rfl | simp [inN])
  refine lv_aload_n hx hb dX4_init_32 rfl (lv_at hl 0 rfl) ?_
  refine lv_bipush (v := 8) hx hb dX4_init_33 (by decide) ?_
  refine c_newi (N' := 8) X hw hS hM 0 18 (by decide) (by decide) (Nat.le_of_ble_eq_true rfl) (Nat.le_of_ble_eq_true rfl) (Nat.le_of_ble_eq_true rfl) dX4_init_35 (fun q_8 L_8 M_8 H hq_8 hL_8 u_8 hw hS => ?_)
  have hc_nm_0_18 := u_8.1
  have ha_nm_0_18 := hq_8
  have hc_nm_0_10 := (u_8.2.1 (nm 0 10) (nm_ne2 (by omega))).trans hc_nm_0_10
  have hc_nm_0_11 := (u_8.2.1 (nm 0 11) (nm_ne2 (by omega))).trans hc_nm_0_11
  have hc_nm_0_12 := (u_8.2.1 (nm 0 12) (nm_ne2 (by omega))).trans hc_nm_0_12
  have hc_nm_0_13 := (u_8.2.1 (nm 0 13) (nm_ne2 (by omega))).trans hc_nm_0_13
  have hc_nm_0_14 := (u_8.2.1 (nm 0 14) (nm_ne2 (by omega))).trans hc_nm_0_14
  have hc_nm_0_15 := (u_8.2.1 (nm 0 15) (nm_ne2 (by omega))).trans hc_nm_0_15
  have hc_nm_0_16 := (u_8.2.1 (nm 0 16) (nm_ne2 (by omega))).trans hc_nm_0_16
  have hc_nm_0_17 := (u_8.2.1 (nm 0 17) (nm_ne2 (by omega))).trans hc_nm_0_17
  have ha_nm_0_10 : _ = r0 := (hL_8 (nm 0 10) (nm_ne2 (by omega))).trans ha_nm_0_10
  have ha_nm_0_11 : _ = q_1 := (hL_8 (nm 0 11) (nm_ne2 (by omega))).trans ha_nm_0_11
  have ha_nm_0_12 : _ = L_2 (nm 0 12) := (hL_8 (nm 0 12) (nm_ne2 (by omega))).trans ha_nm_0_12
  have ha_nm_0_13 : _ = L_2 (nm 0 13) := (hL_8 (nm 0 13) (nm_ne2 (by omega))).trans ha_nm_0_13
  have ha_nm_0_14 : _ = L_2 (nm 0 14) := (hL_8 (nm 0 14) (nm_ne2 (by omega))).trans ha_nm_0_14
  have ha_nm_0_15 : _ = L_2 (nm 0 15) := (hL_8 (nm 0 15) (nm_ne2 (by omega))).trans ha_nm_0_15
  have ha_nm_0_16 : _ = q_4 := (hL_8 (nm 0 16) (nm_ne2 (by omega))).trans ha_nm_0_16
  have ha_nm_0_17 : _ = q_6 := (hL_8 (nm 0 17) (nm_ne2 (by omega))).trans ha_nm_0_17
  have hM := u_8.2.2 hM
  have hP := hP.new u_8 hL_8 (by first | rfl | simp [inN])
  refine c_putF (i := nm 0 10) (ty := tyX4 3) (fs1 := [.ref q_1, .ref q_4, .ref q_6, .ref q_8, .null, .null, .int 0, .int 0, .int 0, .int 0, .int 0, .int 0, .int 0, .int 0]) X hw hS ha_nm_0_10 hc_nm_0_10 rfl gX4 tyX4 tyX4_ok nmX4 3 (by decide) fl_X4_30 rfl rfl hnm rfl (tyX4_ok 3 (by decide)) rfl rfl (show 3 < 14 by decide) rfl dX4_init_37 (fun M_9 H locs u_9 hw hS => ?_)
  have hc_nm_0_10 := u_9.1
  have hc_nm_0_11 := (u_9.2.1 (nm 0 11) (nm_ne2 (by omega))).trans hc_nm_0_11
  have hc_nm_0_12 := (u_9.2.1 (nm 0 12) (nm_ne2 (by omega))).trans hc_nm_0_12
  have hc_nm_0_13 := (u_9.2.1 (nm 0 13) (nm_ne2 (by omega))).trans hc_nm_0_13
  have hc_nm_0_14 := (u_9.2.1 (nm 0 14) (nm_ne2 (by omega))).trans hc_nm_0_14
  have hc_nm_0_15 := (u_9.2.1 (nm 0 15) (nm_ne2 (by omega))).trans hc_nm_0_15
  have hc_nm_0_16 := (u_9.2.1 (nm 0 16) (nm_ne2 (by omega))).trans hc_nm_0_16
  have hc_nm_0_17 := (u_9.2.1 (nm 0 17) (nm_ne2 (by omega))).trans hc_nm_0_17
  have hc_nm_0_18 := (u_9.2.1 (nm 0 18) (nm_ne2 (by omega))).trans hc_nm_0_18
  have hM := u_9.2.2 hM
  have hP := hP.up u_9 (by first | rfl | simp [inN])
  refine lv_aload_n hx hb dX4_init_40 rfl (lv_at hl 0 rfl) ?_
  refine lv_bipush (v := 64) hx hb dX4_init_41 (by decide) ?_
  refine c_newl (N' := 64) X hw hS hM 0 19 (by decide) (by decide) (Nat.le_of_ble_eq_true rfl) (Nat.le_of_ble_eq_true rfl) (Nat.le_of_ble_eq_true rfl) dX4_init_43 (fun q_10 L_10 M_10 H hq_10 hL_10 u_10 hw hS => ?_)
  have hc_nm_0_19 := u_10.1
  have ha_nm_0_19 := hq_10
  have hc_nm_0_10 := (u_10.2.1 (nm 0 10) (nm_ne2 (by omega))).trans hc_nm_0_10
  have hc_nm_0_11 := (u_10.2.1 (nm 0 11) (nm_ne2 (by omega))).trans hc_nm_0_11
  have hc_nm_0_12 := (u_10.2.1 (nm 0 12) (nm_ne2 (by omega))).trans hc_nm_0_12
  have hc_nm_0_13 := (u_10.2.1 (nm 0 13) (nm_ne2 (by omega))).trans hc_nm_0_13
  have hc_nm_0_14 := (u_10.2.1 (nm 0 14) (nm_ne2 (by omega))).trans hc_nm_0_14
  have hc_nm_0_15 := (u_10.2.1 (nm 0 15) (nm_ne2 (by omega))).trans hc_nm_0_15
  have hc_nm_0_16 := (u_10.2.1 (nm 0 16) (nm_ne2 (by omega))).trans hc_nm_0_16
  have hc_nm_0_17 := (u_10.2.1 (nm 0 17) (nm_ne2 (by omega))).trans hc_nm_0_17
  have hc_nm_0_18 := (u_10.2.1 (nm 0 18) (nm_ne2 (by omega))).trans hc_nm_0_18
  have ha_nm_0_10 : _ = r0 := (hL_10 (nm 0 10) (nm_ne2 (by omega))).trans ha_nm_0_10
  have ha_nm_0_11 : _ = q_1 := (hL_10 (nm 0 11) (nm_ne2 (by omega))).trans ha_nm_0_11
  have ha_nm_0_12 : _ = L_2 (nm 0 12) := (hL_10 (nm 0 12) (nm_ne2 (by omega))).trans ha_nm_0_12
  have ha_nm_0_13 : _ = L_2 (nm 0 13) := (hL_10 (nm 0 13) (nm_ne2 (by omega))).trans ha_nm_0_13
  have ha_nm_0_14 : _ = L_2 (nm 0 14) := (hL_10 (nm 0 14) (nm_ne2 (by omega))).trans ha_nm_0_14
  have ha_nm_0_15 : _ = L_2 (nm 0 15) := (hL_10 (nm 0 15) (nm_ne2 (by omega))).trans ha_nm_0_15
  have ha_nm_0_16 : _ = q_4 := (hL_10 (nm 0 16) (nm_ne2 (by omega))).trans ha_nm_0_16
  have ha_nm_0_17 : _ = q_6 := (hL_10 (nm 0 17) (nm_ne2 (by omega))).trans ha_nm_0_17
  have ha_nm_0_18 : _ = q_8 := (hL_10 (nm 0 18) (nm_ne2 (by omega))).trans ha_nm_0_18
  have hM := u_10.2.2 hM
  have hP := hP.new u_10 hL_10 (by first | rfl | simp [inN])
  refine c_putF (i := nm 0 10) (ty := tyX4 4) (fs1 := [.ref q_1, .ref q_4, .ref q_6, .ref q_8, .ref q_10, .null, .int 0, .int 0, .int 0, .int 0, .int 0, .int 0, .int 0, .int 0]) X hw hS ha_nm_0_10 hc_nm_0_10 rfl gX4 tyX4 tyX4_ok nmX4 4 (by decide) fl_X4_35 rfl rfl hnm rfl (tyX4_ok 4 (by decide)) rfl rfl (show 4 < 14 by decide) rfl dX4_init_45 (fun M_11 H locs u_11 hw hS => ?_)
  have hc_nm_0_10 := u_11.1
  have hc_nm_0_11 := (u_11.2.1 (nm 0 11) (nm_ne2 (by omega))).trans hc_nm_0_11
  have hc_nm_0_12 := (u_11.2.1 (nm 0 12) (nm_ne2 (by omega))).trans hc_nm_0_12
  have hc_nm_0_13 := (u_11.2.1 (nm 0 13) (nm_ne2 (by omega))).trans hc_nm_0_13
  have hc_nm_0_14 := (u_11.2.1 (nm 0 14) (nm_ne2 (by omega))).trans hc_nm_0_14
  have hc_nm_0_15 := (u_11.2.1 (nm 0 15) (nm_ne2 (by omega))).trans hc_nm_0_15
  have hc_nm_0_16 := (u_11.2.1 (nm 0 16) (nm_ne2 (by omega))).trans hc_nm_0_16
  have hc_nm_0_17 := (u_11.2.1 (nm 0 17) (nm_ne2 (by omega))).trans hc_nm_0_17
  have hc_nm_0_18 := (u_11.2.1 (nm 0 18) (nm_ne2 (by omega))).trans hc_nm_0_18
  have hc_nm_0_19 := (u_11.2.1 (nm 0 19) (nm_ne2 (by omega))).trans hc_nm_0_19
  have hM := u_11.2.2 hM
  have hP := hP.up u_11 (by first | rfl | simp [inN])
  refine lv_aload_n hx hb dX4_init_48 rfl (lv_at hl 0 rfl) ?_
  refine lv_bipush (v := 64) hx hb dX4_init_49 (by decide) ?_
  refine c_newl (N' := 64) X hw hS hM 0 20 (by decide) (by decide) (Nat.le_of_ble_eq_true rfl) (Nat.le_of_ble_eq_true rfl) (Nat.le_of_ble_eq_true rfl) dX4_init_51 (fun q_12 L_12 M_12 H hq_12 hL_12 u_12 hw hS => ?_)
  have hc_nm_0_20 := u_12.1
  have ha_nm_0_20 := hq_12
  have hc_nm_0_10 := (u_12.2.1 (nm 0 10) (nm_ne2 (by omega))).trans hc_nm_0_10
  have hc_nm_0_11 := (u_12.2.1 (nm 0 11) (nm_ne2 (by omega))).trans hc_nm_0_11
  have hc_nm_0_12 := (u_12.2.1 (nm 0 12) (nm_ne2 (by omega))).trans hc_nm_0_12
  have hc_nm_0_13 := (u_12.2.1 (nm 0 13) (nm_ne2 (by omega))).trans hc_nm_0_13
  have hc_nm_0_14 := (u_12.2.1 (nm 0 14) (nm_ne2 (by omega))).trans hc_nm_0_14
  have hc_nm_0_15 := (u_12.2.1 (nm 0 15) (nm_ne2 (by omega))).trans hc_nm_0_15
  have hc_nm_0_16 := (u_12.2.1 (nm 0 16) (nm_ne2 (by omega))).trans hc_nm_0_16
  have hc_nm_0_17 := (u_12.2.1 (nm 0 17) (nm_ne2 (by omega))).trans hc_nm_0_17
  have hc_nm_0_18 := (u_12.2.1 (nm 0 18) (nm_ne2 (by omega))).trans hc_nm_0_18
  have hc_nm_0_19 := (u_12.2.1 (nm 0 19) (nm_ne2 (by omega))).trans hc_nm_0_19
  have ha_nm_0_10 : _ = r0 := (hL_12 (nm 0 10) (nm_ne2 (by omega))).trans ha_nm_0_10
  have ha_nm_0_11 : _ = q_1 := (hL_12 (nm 0 11) (nm_ne2 (by omega))).trans ha_nm_0_11
  have ha_nm_0_12 : _ = L_2 (nm 0 12) := (hL_12 (nm 0 12) (nm_ne2 (by omega))).trans ha_nm_0_12
  have ha_nm_0_13 : _ = L_2 (nm 0 13) := (hL_12 (nm 0 13) (nm_ne2 (by omega))).trans ha_nm_0_13
  have ha_nm_0_14 : _ = L_2 (nm 0 14) := (hL_12 (nm 0 14) (nm_ne2 (by omega))).trans ha_nm_0_14
  have ha_nm_0_15 : _ = L_2 (nm 0 15) := (hL_12 (nm 0 15) (nm_ne2 (by omega))).trans ha_nm_0_15
  have ha_nm_0_16 : _ = q_4 := (hL_12 (nm 0 16) (nm_ne2 (by omega))).trans ha_nm_0_16
  have ha_nm_0_17 : _ = q_6 := (hL_12 (nm 0 17) (nm_ne2 (by omega))).trans ha_nm_0_17
  have ha_nm_0_18 : _ = q_8 := (hL_12 (nm 0 18) (nm_ne2 (by omega))).trans ha_nm_0_18
  have ha_nm_0_19 : _ = q_10 := (hL_12 (nm 0 19) (nm_ne2 (by omega))).trans ha_nm_0_19
  have hM := u_12.2.2 hM
  have hP := hP.new u_12 hL_12 (by first | rfl | simp [inN])
  refine c_putF (i := nm 0 10) (ty := tyX4 5) (fs1 := [.ref q_1, .ref q_4, .ref q_6, .ref q_8, .ref q_10, .ref q_12, .int 0, .int 0, .int 0, .int 0, .int 0, .int 0, .int 0, .int 0]) X hw hS ha_nm_0_10 hc_nm_0_10 rfl gX4 tyX4 tyX4_ok nmX4 5 (by decide) fl_X4_39 rfl rfl hnm rfl (tyX4_ok 5 (by decide)) rfl rfl (show 5 < 14 by decide) rfl dX4_init_53 (fun M_13 H locs u_13 hw hS => ?_)
  have hc_nm_0_10 := u_13.1
  have hc_nm_0_11 := (u_13.2.1 (nm 0 11) (nm_ne2 (by omega))).trans hc_nm_0_11
  have hc_nm_0_12 := (u_13.2.1 (nm 0 12) (nm_ne2 (by omega))).trans hc_nm_0_12
  have hc_nm_0_13 := (u_13.2.1 (nm 0 13) (nm_ne2 (by omega))).trans hc_nm_0_13
  have hc_nm_0_14 := (u_13.2.1 (nm 0 14) (nm_ne2 (by omega))).trans hc_nm_0_14
  have hc_nm_0_15 := (u_13.2.1 (nm 0 15) (nm_ne2 (by omega))).trans hc_nm_0_15
  have hc_nm_0_16 := (u_13.2.1 (nm 0 16) (nm_ne2 (by omega))).trans hc_nm_0_16
  have hc_nm_0_17 := (u_13.2.1 (nm 0 17) (nm_ne2 (by omega))).trans hc_nm_0_17
  have hc_nm_0_18 := (u_13.2.1 (nm 0 18) (nm_ne2 (by omega))).trans hc_nm_0_18
  have hc_nm_0_19 := (u_13.2.1 (nm 0 19) (nm_ne2 (by omega))).trans hc_nm_0_19
  have hc_nm_0_20 := (u_13.2.1 (nm 0 20) (nm_ne2 (by omega))).trans hc_nm_0_20
  have hM := u_13.2.2 hM
  have hP := hP.up u_13 (by first | rfl | simp [inN])
  refine lv_aload_n hx hb dX4_init_56 rfl (lv_at hl 0 rfl) ?_
  refine lv_ldc (v := (-99999999)) hx hb X.1.2.2.2.1 (X.1.2.2.2.2 _ ki_X4_42) dX4_init_57 ?_
  refine c_put (i := nm 0 10) (ty := tyX4 12) (fs1 := [.ref q_1, .ref q_4, .ref q_6, .ref q_8, .ref q_10, .ref q_12, .int 0, .int 0, .int 0, .int 0, .int 0, .int 0, .int (-99999999), .int 0]) X hw hS ha_nm_0_10 hc_nm_0_10 rfl gX4 tyX4 tyX4_ok nmX4 12 (by decide) fl_X4_43 rfl rfl (tyX4_ok 12 (by decide)) rfl rfl (show 12 < 14 by decide) rfl dX4_init_59 (fun M_14 H locs u_14 hw hS => ?_)
  have hc_nm_0_10 := u_14.1
  have hc_nm_0_11 := (u_14.2.1 (nm 0 11) (nm_ne2 (by omega))).trans hc_nm_0_11
  have hc_nm_0_12 := (u_14.2.1 (nm 0 12) (nm_ne2 (by omega))).trans hc_nm_0_12
  have hc_nm_0_13 := (u_14.2.1 (nm 0 13) (nm_ne2 (by omega))).trans hc_nm_0_13
  have hc_nm_0_14 := (u_14.2.1 (nm 0 14) (nm_ne2 (by omega))).trans hc_nm_0_14
  have hc_nm_0_15 := (u_14.2.1 (nm 0 15) (nm_ne2 (by omega))).trans hc_nm_0_15
  have hc_nm_0_16 := (u_14.2.1 (nm 0 16) (nm_ne2 (by omega))).trans hc_nm_0_16
  have hc_nm_0_17 := (u_14.2.1 (nm 0 17) (nm_ne2 (by omega))).trans hc_nm_0_17
  have hc_nm_0_18 := (u_14.2.1 (nm 0 18) (nm_ne2 (by omega))).trans hc_nm_0_18
  have hc_nm_0_19 := (u_14.2.1 (nm 0 19) (nm_ne2 (by omega))).trans hc_nm_0_19
  have hc_nm_0_20 := (u_14.2.1 (nm 0 20) (nm_ne2 (by omega))).trans hc_nm_0_20
  have hM := u_14.2.2 hM
  have hP := hP.up u_14 (by first | rfl | simp [inN])
  refine lv_aload_n hx hb dX4_init_62 rfl (lv_at hl 0 rfl) ?_
  refine lv_ldc (v := (-99999999)) hx hb X.1.2.2.2.1 (X.1.2.2.2.2 _ ki_X4_42) dX4_init_63 ?_
  refine c_put (i := nm 0 10) (ty := tyX4 13) (fs1 := [.ref q_1, .ref q_4, .ref q_6, .ref q_8, .ref q_10, .ref q_12, .int 0, .int 0, .int 0, .int 0, .int 0, .int 0, .int (-99999999), .int (-99999999)]) X hw hS ha_nm_0_10 hc_nm_0_10 rfl gX4 tyX4 tyX4_ok nmX4 13 (by decide) fl_X4_47 rfl rfl (tyX4_ok 13 (by decide)) rfl rfl (show 13 < 14 by decide) rfl dX4_init_65 (fun M_15 H locs u_15 hw hS => ?_)
  have hc_nm_0_10 := u_15.1
  have hc_nm_0_11 := (u_15.2.1 (nm 0 11) (nm_ne2 (by omega))).trans hc_nm_0_11
  have hc_nm_0_12 := (u_15.2.1 (nm 0 12) (nm_ne2 (by omega))).trans hc_nm_0_12
  have hc_nm_0_13 := (u_15.2.1 (nm 0 13) (nm_ne2 (by omega))).trans hc_nm_0_13
  have hc_nm_0_14 := (u_15.2.1 (nm 0 14) (nm_ne2 (by omega))).trans hc_nm_0_14
  have hc_nm_0_15 := (u_15.2.1 (nm 0 15) (nm_ne2 (by omega))).trans hc_nm_0_15
  have hc_nm_0_16 := (u_15.2.1 (nm 0 16) (nm_ne2 (by omega))).trans hc_nm_0_16
  have hc_nm_0_17 := (u_15.2.1 (nm 0 17) (nm_ne2 (by omega))).trans hc_nm_0_17
  have hc_nm_0_18 := (u_15.2.1 (nm 0 18) (nm_ne2 (by omega))).trans hc_nm_0_18
  have hc_nm_0_19 := (u_15.2.1 (nm 0 19) (nm_ne2 (by omega))).trans hc_nm_0_19
  have hc_nm_0_20 := (u_15.2.1 (nm 0 20) (nm_ne2 (by omega))).trans hc_nm_0_20
  have hM := u_15.2.2 hM
  have hP := hP.up u_15 (by first | rfl | simp [inN])
  exact m_vret X hr hlk hw hS (Nat.le_of_ble_eq_true rfl) (Nat.le_of_ble_eq_true rfl) ⟨hP, by rw [ha_nm_0_11, ha_nm_0_16, ha_nm_0_17, ha_nm_0_18, ha_nm_0_19, ha_nm_0_20]; exact hc_nm_0_10, by rw [ha_nm_0_12, ha_nm_0_13, ha_nm_0_14, ha_nm_0_15]; exact hc_nm_0_11, by exact hc_nm_0_12, by exact hc_nm_0_13, by exact hc_nm_0_14, by exact hc_nm_0_15, by exact hc_nm_0_16, by exact hc_nm_0_17, by exact hc_nm_0_18, by exact hc_nm_0_19, by exact hc_nm_0_20⟩ dX4_init_68
