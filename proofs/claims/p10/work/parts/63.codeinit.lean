theorem i_X0_init : mIm yX0_init cX0_init 3 2 := ⟨cd_X0_init, im_X0_init, ini_X0, rfl, by decide, by decide, by decide +kernel⟩
set_option maxHeartbeats 4000000 in
set_option maxRecDepth 100000 in
theorem k_X0_init (Γ : mG) (l : Launch) (L : mI → Nat) (M : mM) (a : Nat) (n : Int32) (v : Int32) (r0 : Nat) (ha_s : L (nm a 0) = r0) (hc_s : mget M (nm a 0) = some (.inr (0, [.int 0, .int 0, .null, .null, .int 0, .null, .null, .null, .null, .int 0, .null, .int 0]))) (hM : 0 < M.2.length)  : mMet Γ l yX0_init cX0_init 3 none { frames := 1, cells := 7, slots := 144, locals := 12 } [.ref r0, .int n, .int v] L M (mQv Γ (fun L1 M1 => cP L M L1 M1 (inN [(a, 1), (a, 2), (a, 3), (a, 4), (a, 5), (a, 6), (a, 7)] []) (inN [(a, 0)] []) ∧ mget M1 (nm a 0) = some (.inr (0, [.int n, .int v, .ref (L1 (nm a 1)), .ref (L1 (nm a 2)), .int 0, .ref (L1 (nm a 3)), .ref (L1 (nm a 4)), .ref (L1 (nm a 5)), .ref (L1 (nm a 6)), .int 0, .ref (L1 (nm a 7)), .int 0])) ∧ mget M1 (nm a 1) = some (.inl (Γ.2.1 0, 40, .inl (fun _ => 0))) ∧ mget M1 (nm a 2) = some (.inl (Γ.2.1 1, 40, .inr (.inl (fun _ => 0)))) ∧ mget M1 (nm a 3) = some (.inl (Γ.2.1 0, 6, .inl (fun _ => 0))) ∧ mget M1 (nm a 4) = some (.inl (Γ.2.1 0, 6, .inl (fun _ => 0))) ∧ mget M1 (nm a 5) = some (.inl (Γ.2.1 0, 6, .inl (fun _ => 0))) ∧ mget M1 (nm a 6) = some (.inl (Γ.2.1 0, 6, .inl (fun _ => 0))) ∧ mget M1 (nm a 7) = some (.inl (Γ.2.1 4, 40, .inr (.inr (.inr (.inr (fun _ => none)))))))) := by
  refine m_start (by decide) (Nat.le_of_ble_eq_true rfl) ?_
  intro p e s m args below meth c A ls X hr hlk hnm hw hS hl
  have hx := X.1.1
  have hb := X.1.2.1
  have hP : cP L M L M (inN [(a, 1), (a, 2), (a, 3), (a, 4), (a, 5), (a, 6), (a, 7)] []) (inN [(a, 0)] []) := cP.rf
  have hc_nm_a_0 := hc_s
  have hl : lv_has ls 3 [(0, .ref r0), (1, .int n), (2, .int v)] := hl
  refine lv_aload_n hx hb dX0_init_0 rfl (lv_at hl 0 rfl) ?_
  refine c_objInit X ml_X0_3 hl.1 dX0_init_1 (Nat.le_of_ble_eq_true rfl) (Nat.le_of_ble_eq_true rfl) ?_
  refine lv_aload_n hx hb dX0_init_4 rfl (lv_at hl 0 rfl) ?_
  refine lv_bipush (v := 40) hx hb dX0_init_5 (by decide) ?_
  refine c_newi (N' := 40) X hw hS hM a 1 (by decide) (by decide) (Nat.le_of_ble_eq_true rfl) (Nat.le_of_ble_eq_true rfl) (Nat.le_of_ble_eq_true rfl) dX0_init_7 (fun q_1 L_1 M_1 H hq_1 hL_1 u_1 hw hS => ?_)
  have hc_nm_a_1 := u_1.1
  have ha_nm_a_1 := hq_1
  have hc_nm_a_0 := (u_1.2.1 (nm a 0) (nm_ne2 (by omega))).trans hc_nm_a_0
  have ha_nm_a_0 : _ = r0 := (hL_1 (nm a 0) (nm_ne2 (by omega))).trans ha_s
  have hM := u_1.2.2 hM
  have hP := hP.new u_1 hL_1 (by first | rfl | simp [inN])
  refine c_putF (i := nm a 0) (ty := tyX0 2) (fs1 := [.int 0, .int 0, .ref q_1, .null, .int 0, .null, .null, .null, .null, .int 0, .null, .int 0]) X hw hS ha_nm_a_0 hc_nm_a_0 rfl gX0 tyX0 tyX0_ok nmX0 2 (by decide) fl_X0_11 rfl rfl hnm rfl (tyX0_ok 2 (by decide)) rfl rfl (show 2 < 12 by decide) rfl dX0_init_9 (fun M_2 H locs u_2 hw hS => ?_)
  have hc_nm_a_0 := u_2.1
  have hc_nm_a_1 := (u_2.2.1 (nm a 1) (nm_ne2 (by omega))).trans hc_nm_a_1
  have hM := u_2.2.2 hM
  have hP := hP.up u_2 (by first | rfl | simp [inN])
  refine lv_aload_n hx hb dX0_init_12 rfl (lv_at hl 0 rfl) ?_
  refine lv_bipush (v := 40) hx hb dX0_init_13 (by decide) ?_
  refine c_newl (N' := 40) X hw hS hM a 2 (by decide) (by decide) (Nat.le_of_ble_eq_true rfl) (Nat.le_of_ble_eq_true rfl) (Nat.le_of_ble_eq_true rfl) dX0_init_15 (fun q_3 L_3 M_3 H hq_3 hL_3 u_3 hw hS => ?_)
  have hc_nm_a_2 := u_3.1
  have ha_nm_a_2 := hq_3
  have hc_nm_a_0 := (u_3.2.1 (nm a 0) (nm_ne2 (by omega))).trans hc_nm_a_0
  have hc_nm_a_1 := (u_3.2.1 (nm a 1) (nm_ne2 (by omega))).trans hc_nm_a_1
  have ha_nm_a_0 : _ = r0 := (hL_3 (nm a 0) (nm_ne2 (by omega))).trans ha_nm_a_0
  have ha_nm_a_1 : _ = q_1 := (hL_3 (nm a 1) (nm_ne2 (by omega))).trans ha_nm_a_1
  have hM := u_3.2.2 hM
  have hP := hP.new u_3 hL_3 (by first | rfl | simp [inN])
  refine c_putF (i := nm a 0) (ty := tyX0 3) (fs1 := [.int 0, .int 0, .ref q_1, .ref q_3, .int 0, .null, .null, .null, .null, .int 0, .null, .int 0]) X hw hS ha_nm_a_0 hc_nm_a_0 rfl gX0 tyX0 tyX0_ok nmX0 3 (by decide) fl_X0_15 rfl rfl hnm rfl (tyX0_ok 3 (by decide)) rfl rfl (show 3 < 12 by decide) rfl dX0_init_17 (fun M_4 H locs u_4 hw hS => ?_)
  have hc_nm_a_0 := u_4.1
  have hc_nm_a_1 := (u_4.2.1 (nm a 1) (nm_ne2 (by omega))).trans hc_nm_a_1
  have hc_nm_a_2 := (u_4.2.1 (nm a 2) (nm_ne2 (by omega))).trans hc_nm_a_2
  have hM := u_4.2.2 hM
  have hP := hP.up u_4 (by first | rfl | simp [inN])
  refine lv_aload_n hx hb dX0_init_20 rfl (lv_at hl 0 rfl) ?_
  refine lv_bipush (v := 6) hx hb dX0_init_21 (by decide) ?_
  refine c_newi (N' := 6) X hw hS hM a 3 (by decide) (by decide) (Nat.le_of_ble_eq_true rfl) (Nat.le_of_ble_eq_true rfl) (Nat.le_of_ble_eq_true rfl) dX0_init_23 (fun q_5 L_5 M_5 H hq_5 hL_5 u_5 hw hS => ?_)
  have hc_nm_a_3 := u_5.1
  have ha_nm_a_3 := hq_5
  have hc_nm_a_0 := (u_5.2.1 (nm a 0) (nm_ne2 (by omega))).trans hc_nm_a_0
  have hc_nm_a_1 := (u_5.2.1 (nm a 1) (nm_ne2 (by omega))).trans hc_nm_a_1
  have hc_nm_a_2 := (u_5.2.1 (nm a 2) (nm_ne2 (by omega))).trans hc_nm_a_2
  have ha_nm_a_0 : _ = r0 := (hL_5 (nm a 0) (nm_ne2 (by omega))).trans ha_nm_a_0
  have ha_nm_a_1 : _ = q_1 := (hL_5 (nm a 1) (nm_ne2 (by omega))).trans ha_nm_a_1
  have ha_nm_a_2 : _ = q_3 := (hL_5 (nm a 2) (nm_ne2 (by omega))).trans ha_nm_a_2
  have hM := u_5.2.2 hM
  have hP := hP.new u_5 hL_5 (by first | rfl | simp [inN])
  refine c_putF (i := nm a 0) (ty := tyX0 5) (fs1 := [.int 0, .int 0, .ref q_1, .ref q_3, .int 0, .ref q_5, .null, .null, .null, .int 0, .null, .int 0]) X hw hS ha_nm_a_0 hc_nm_a_0 rfl gX0 tyX0 tyX0_ok nmX0 5 (by decide) fl_X0_19 rfl rfl hnm rfl (tyX0_ok 5 (by decide)) rfl rfl (show 5 < 12 by decide) rfl dX0_init_25 (fun M_6 H locs u_6 hw hS => ?_)
  have hc_nm_a_0 := u_6.1
  have hc_nm_a_1 := (u_6.2.1 (nm a 1) (nm_ne2 (by omega))).trans hc_nm_a_1
  have hc_nm_a_2 := (u_6.2.1 (nm a 2) (nm_ne2 (by omega))).trans hc_nm_a_2
  have hc_nm_a_3 := (u_6.2.1 (nm a 3) (nm_ne2 (by omega))).trans hc_nm_a_3
  have hM := u_6.2.2 hM
  have hP := hP.up u_6 (by first | rfl | simp [inN])
  refine lv_aload_n hx hb dX0_init_28 rfl (lv_at hl 0 rfl) ?_
  refine lv_bipush (v := 6) hx hb dX0_init_29 (by decide) ?_
  refine c_newi (N' := 6) X hw hS hM a 4 (by decide) (by decide) (Nat.le_of_ble_eq_true rfl) (Nat.le_of_ble_eq_true rfl) (Nat.le_of_ble_eq_true rfl) dX0_init_31 (fun q_7 L_7 M_7 H hq_7 hL_7 u_7 hw hS => ?_)
  have hc_nm_a_4 := u_7.1
  have ha_nm_a_4 := hq_7
  have hc_nm_a_0 := (u_7.2.1 (nm a 0) (nm_ne2 (by omega))).trans hc_nm_a_0
  have hc_nm_a_1 := (u_7.2.1 (nm a 1) (nm_ne2 (by omega))).trans hc_nm_a_1
  have hc_nm_a_2 := (u_7.2.1 (nm a 2) (nm_ne2 (by omega))).trans hc_nm_a_2
  have hc_nm_a_3 := (u_7.2.1 (nm a 3) (nm_ne2 (by omega))).trans hc_nm_a_3
  have ha_nm_a_0 : _ = r0 := (hL_7 (nm a 0) (nm_ne2 (by omega))).trans ha_nm_a_0
  have ha_nm_a_1 : _ = q_1 := (hL_7 (nm a 1) (nm_ne2 (by omega))).trans ha_nm_a_1
  have ha_nm_a_2 : _ = q_3 := (hL_7 (nm a 2) (nm_ne2 (by omega))).trans ha_nm_a_2
  have ha_nm_a_3 : _ = q_5 := (hL_7 (nm a 3) (nm_ne2 (by omega))).trans ha_nm_a_3
  have hM := u_7.2.2 hM
  have hP := hP.new u_7 hL_7 (by first | rfl | simp [inN])
  refine c_putF (i := nm a 0) (ty := tyX0 6) (fs1 := [.int 0, .int 0, .ref q_1, .ref q_3, .int 0, .ref q_5, .ref q_7, .null, .null, .int 0, .null, .int 0]) X hw hS ha_nm_a_0 hc_nm_a_0 rfl gX0 tyX0 tyX0_ok nmX0 6 (by decide) fl_X0_22 rfl rfl hnm rfl (tyX0_ok 6 (by decide)) rfl rfl (show 6 < 12 by decide) rfl dX0_init_33 (fun M_8 H locs u_8 hw hS => ?_)
  have hc_nm_a_0 := u_8.1
  have hc_nm_a_1 := (u_8.2.1 (nm a 1) (nm_ne2 (by omega))).trans hc_nm_a_1
  have hc_nm_a_2 := (u_8.2.1 (nm a 2) (nm_ne2 (by omega))).trans hc_nm_a_2
  have hc_nm_a_3 := (u_8.2.1 (nm a 3) (nm_ne2 (by omega))).trans hc_nm_a_3
  have hc_nm_a_4 := (u_8.2.1 (nm a 4) (nm_ne2 (by omega))).trans hc_nm_a_4
  have hM := u_8.2.2 hM
  have hP := hP.up u_8 (by first | rfl | simp [inN])
  refine lv_aload_n hx hb dX0_init_36 rfl (lv_at hl 0 rfl) ?_
  refine lv_bipush (v := 6) hx hb dX0_init_37 (by decide) ?_
  refine c_newi (N' := 6) X hw hS hM a 5 (by decide) (by decide) (Nat.le_of_ble_eq_true rfl) (Nat.le_of_ble_eq_true rfl) (Nat.le_of_ble_eq_true rfl) dX0_init_39 (fun q_9 L_9 M_9 H hq_9 hL_9 u_9 hw hS => ?_)
  have hc_nm_a_5 := u_9.1
  have ha_nm_a_5 := hq_9
  have hc_nm_a_0 := (u_9.2.1 (nm a 0) (nm_ne2 (by omega))).trans hc_nm_a_0
  have hc_nm_a_1 := (u_9.2.1 (nm a 1) (nm_ne2 (by omega))).trans hc_nm_a_1
  have hc_nm_a_2 := (u_9.2.1 (nm a 2) (nm_ne2 (by omega))).trans hc_nm_a_2
  have hc_nm_a_3 := (u_9.2.1 (nm a 3) (nm_ne2 (by omega))).trans hc_nm_a_3
  have hc_nm_a_4 := (u_9.2.1 (nm a 4) (nm_ne2 (by omega))).trans hc_nm_a_4
  have ha_nm_a_0 : _ = r0 := (hL_9 (nm a 0) (nm_ne2 (by omega))).trans ha_nm_a_0
  have ha_nm_a_1 : _ = q_1 := (hL_9 (nm a 1) (nm_ne2 (by omega))).trans ha_nm_a_1
  have ha_nm_a_2 : _ = q_3 := (hL_9 (nm a 2) (nm_ne2 (by omega))).trans ha_nm_a_2
  have ha_nm_a_3 : _ = q_5 := (hL_9 (nm a 3) (nm_ne2 (by omega))).trans ha_nm_a_3
  have ha_nm_a_4 : _ = q_7 := (hL_9 (nm a 4) (nm_ne2 (by omega))).trans ha_nm_a_4
  have hM := u_9.2.2 hM
  have hP := hP.new u_9 hL_9 (by first | rfl | simp [inN])
  refine c_putF (i := nm a 0) (ty := tyX0 7) (fs1 := [.int 0, .int 0, .ref q_1, .ref q_3, .int 0, .ref q_5, .ref q_7, .ref q_9, .null, .int 0, .null, .int 0]) X hw hS ha_nm_a_0 hc_nm_a_0 rfl gX0 tyX0 tyX0_ok nmX0 7 (by decide) fl_X0_25 rfl rfl hnm rfl (tyX0_ok 7 (by decide)) rfl rfl (show 7 < 12 by decide) rfl dX0_init_41 (fun M_10 H locs u_10 hw hS => ?_)
  have hc_nm_a_0 := u_10.1
  have hc_nm_a_1 := (u_10.2.1 (nm a 1) (nm_ne2 (by omega))).trans hc_nm_a_1
  have hc_nm_a_2 := (u_10.2.1 (nm a 2) (nm_ne2 (by omega))).trans hc_nm_a_2
  have hc_nm_a_3 := (u_10.2.1 (nm a 3) (nm_ne2 (by omega))).trans hc_nm_a_3
  have hc_nm_a_4 := (u_10.2.1 (nm a 4) (nm_ne2 (by omega))).trans hc_nm_a_4
  have hc_nm_a_5 := (u_10.2.1 (nm a 5) (nm_ne2 (by omega))).trans hc_nm_a_5
  have hM := u_10.2.2 hM
  have hP := hP.up u_10 (by first | rfl | simp [inN])
  refine lv_aload_n hx hb dX0_init_44 rfl (lv_at hl 0 rfl) ?_
  refine lv_bipush (v := 6) hx hb dX0_init_45 (by decide) ?_
  refine c_newi (N' := 6) X hw hS hM a 6 (by decide) (by decide) (Nat.le_of_ble_eq_true rfl) (Nat.le_of_ble_eq_true rfl) (Nat.le_of_ble_eq_true rfl) dX0_init_47 (fun q_11 L_11 M_11 H hq_11 hL_11 u_11 hw hS => ?_)
  have hc_nm_a_6 := u_11.1
  have ha_nm_a_6 := hq_11
  have hc_nm_a_0 := (u_11.2.1 (nm a 0) (nm_ne2 (by omega))).trans hc_nm_a_0
  have hc_nm_a_1 := (u_11.2.1 (nm a 1) (nm_ne2 (by omega))).trans hc_nm_a_1
  have hc_nm_a_2 := (u_11.2.1 (nm a 2) (nm_ne2 (by omega))).trans hc_nm_a_2
  have hc_nm_a_3 := (u_11.2.1 (nm a 3) (nm_ne2 (by omega))).trans hc_nm_a_3
  have hc_nm_a_4 := (u_11.2.1 (nm a 4) (nm_ne2 (by omega))).trans hc_nm_a_4
  have hc_nm_a_5 := (u_11.2.1 (nm a 5) (nm_ne2 (by omega))).trans hc_nm_a_5
  have ha_nm_a_0 : _ = r0 := (hL_11 (nm a 0) (nm_ne2 (by omega))).trans ha_nm_a_0
  have ha_nm_a_1 : _ = q_1 := (hL_11 (nm a 1) (nm_ne2 (by omega))).trans ha_nm_a_1
  have ha_nm_a_2 : _ = q_3 := (hL_11 (nm a 2) (nm_ne2 (by omega))).trans ha_nm_a_2
  have ha_nm_a_3 : _ = q_5 := (hL_11 (nm a 3) (nm_ne2 (by omega))).trans ha_nm_a_3
  have ha_nm_a_4 : _ = q_7 := (hL_11 (nm a 4) (nm_ne2 (by omega))).trans ha_nm_a_4
  have ha_nm_a_5 : _ = q_9 := (hL_11 (nm a 5) (nm_ne2 (by omega))).trans ha_nm_a_5
  have hM := u_11.2.2 hM
  have hP := hP.new u_11 hL_11 (by first | rfl | simp [inN])
  refine c_putF (i := nm a 0) (ty := tyX0 8) (fs1 := [.int 0, .int 0, .ref q_1, .ref q_3, .int 0, .ref q_5, .ref q_7, .ref q_9, .ref q_11, .int 0, .null, .int 0]) X hw hS ha_nm_a_0 hc_nm_a_0 rfl gX0 tyX0 tyX0_ok nmX0 8 (by decide) fl_X0_28 rfl rfl hnm rfl (tyX0_ok 8 (by decide)) rfl rfl (show 8 < 12 by decide) rfl dX0_init_49 (fun M_12 H locs u_12 hw hS => ?_)
  have hc_nm_a_0 := u_12.1
  have hc_nm_a_1 := (u_12.2.1 (nm a 1) (nm_ne2 (by omega))).trans hc_nm_a_1
  have hc_nm_a_2 := (u_12.2.1 (nm a 2) (nm_ne2 (by omega))).trans hc_nm_a_2
  have hc_nm_a_3 := (u_12.2.1 (nm a 3) (nm_ne2 (by omega))).trans hc_nm_a_3
  have hc_nm_a_4 := (u_12.2.1 (nm a 4) (nm_ne2 (by omega))).trans hc_nm_a_4
  have hc_nm_a_5 := (u_12.2.1 (nm a 5) (nm_ne2 (by omega))).trans hc_nm_a_5
  have hc_nm_a_6 := (u_12.2.1 (nm a 6) (nm_ne2 (by omega))).trans hc_nm_a_6
  have hM := u_12.2.2 hM
  have hP := hP.up u_12 (by first | rfl | simp [inN])
  refine lv_aload_n hx hb dX0_init_52 rfl (lv_at hl 0 rfl) ?_
  refine lv_bipush (v := 40) hx hb dX0_init_53 (by decide) ?_
  refine c_newq (t := 4) (N' := 40) X hw hS hM a 7 rfl cl_X0_31 X.2.1.2.2.2 (by decide) (by decide) (Nat.le_of_ble_eq_true rfl) (Nat.le_of_ble_eq_true rfl) (Nat.le_of_ble_eq_true rfl) dX0_init_55 (fun q_13 L_13 M_13 H hq_13 hL_13 u_13 hw hS => ?_)
  have hc_nm_a_7 := u_13.1
  have ha_nm_a_7 := hq_13
  have hc_nm_a_0 := (u_13.2.1 (nm a 0) (nm_ne2 (by omega))).trans hc_nm_a_0
  have hc_nm_a_1 := (u_13.2.1 (nm a 1) (nm_ne2 (by omega))).trans hc_nm_a_1
  have hc_nm_a_2 := (u_13.2.1 (nm a 2) (nm_ne2 (by omega))).trans hc_nm_a_2
  have hc_nm_a_3 := (u_13.2.1 (nm a 3) (nm_ne2 (by omega))).trans hc_nm_a_3
  have hc_nm_a_4 := (u_13.2.1 (nm a 4) (nm_ne2 (by omega))).trans hc_nm_a_4
  have hc_nm_a_5 := (u_13.2.1 (nm a 5) (nm_ne2 (by omega))).trans hc_nm_a_5
  have hc_nm_a_6 := (u_13.2.1 (nm a 6) (nm_ne2 (by omega))).trans hc_nm_a_6
  have ha_nm_a_0 : _ = r0 := (hL_13 (nm a 0) (nm_ne2 (by omega))).trans ha_nm_a_0
  have ha_nm_a_1 : _ = q_1 := (hL_13 (nm a 1) (nm_ne2 (by omega))).trans ha_nm_a_1
  have ha_nm_a_2 : _ = q_3 := (hL_13 (nm a 2) (nm_ne2 (by omega))).trans ha_nm_a_2
  have ha_nm_a_3 : _ = q_5 := (hL_13 (nm a 3) (nm_ne2 (by omega))).trans ha_nm_a_3
  have ha_nm_a_4 : _ = q_7 := (hL_13 (nm a 4) (nm_ne2 (by omega))).trans ha_nm_a_4
  have ha_nm_a_5 : _ = q_9 := (hL_13 (nm a 5) (nm_ne2 (by omega))).trans ha_nm_a_5
  have ha_nm_a_6 : _ = q_11 := (hL_13 (nm a 6) (nm_ne2 (by omega))).trans ha_nm_a_6
  have hM := u_13.2.2 hM
  have hP := hP.new u_13 hL_13 (by first | rfl | simp [inN])
  refine c_putF (i := nm a 0) (ty := tyX0 10) (fs1 := [.int 0, .int 0, .ref q_1, .ref q_3, .int 0, .ref q_5, .ref q_7, .ref q_9, .ref q_11, .int 0, .ref q_13, .int 0]) X hw hS ha_nm_a_0 hc_nm_a_0 rfl gX0 tyX0 tyX0_ok nmX0 10 (by decide) fl_X0_33 rfl rfl hnm rfl (tyX0_ok 10 (by decide)) rfl rfl (show 10 < 12 by decide) rfl dX0_init_58 (fun M_14 H locs u_14 hw hS => ?_)
  have hc_nm_a_0 := u_14.1
  have hc_nm_a_1 := (u_14.2.1 (nm a 1) (nm_ne2 (by omega))).trans hc_nm_a_1
  have hc_nm_a_2 := (u_14.2.1 (nm a 2) (nm_ne2 (by omega))).trans hc_nm_a_2
  have hc_nm_a_3 := (u_14.2.1 (nm a 3) (nm_ne2 (by omega))).trans hc_nm_a_3
  have hc_nm_a_4 := (u_14.2.1 (nm a 4) (nm_ne2 (by omega))).trans hc_nm_a_4
  have hc_nm_a_5 := (u_14.2.1 (nm a 5) (nm_ne2 (by omega))).trans hc_nm_a_5
  have hc_nm_a_6 := (u_14.2.1 (nm a 6) (nm_ne2 (by omega))).trans hc_nm_a_6
  have hc_nm_a_7 := (u_14.2.1 (nm a 7) (nm_ne2 (by omega))).trans hc_nm_a_7
  have hM := u_14.2.2 hM
  have hP := hP.up u_14 (by first | rfl | simp [inN])
  refine lv_aload_n hx hb dX0_init_61 rfl (lv_at hl 0 rfl) ?_
  refine lv_iload_n hx hb dX0_init_62 rfl (lv_at hl 1 rfl) ?_
  refine c_putF (i := nm a 0) (ty := tyX0 0) (fs1 := [.int n, .int 0, .ref q_1, .ref q_3, .int 0, .ref q_5, .ref q_7, .ref q_9, .ref q_11, .int 0, .ref q_13, .int 0]) X hw hS ha_nm_a_0 hc_nm_a_0 rfl gX0 tyX0 tyX0_ok nmX0 0 (by decide) fl_X0_37 rfl rfl hnm rfl (tyX0_ok 0 (by decide)) rfl rfl (show 0 < 12 by decide) rfl dX0_init_63 (fun M_15 H locs u_15 hw hS => ?_)
  have hc_nm_a_0 := u_15.1
  have hc_nm_a_1 := (u_15.2.1 (nm a 1) (nm_ne2 (by omega))).trans hc_nm_a_1
  have hc_nm_a_2 := (u_15.2.1 (nm a 2) (nm_ne2 (by omega))).trans hc_nm_a_2
  have hc_nm_a_3 := (u_15.2.1 (nm a 3) (nm_ne2 (by omega))).trans hc_nm_a_3
  have hc_nm_a_4 := (u_15.2.1 (nm a 4) (nm_ne2 (by omega))).trans hc_nm_a_4
  have hc_nm_a_5 := (u_15.2.1 (nm a 5) (nm_ne2 (by omega))).trans hc_nm_a_5
  have hc_nm_a_6 := (u_15.2.1 (nm a 6) (nm_ne2 (by omega))).trans hc_nm_a_6
  have hc_nm_a_7 := (u_15.2.1 (nm a 7) (nm_ne2 (by omega))).trans hc_nm_a_7
  have hM := u_15.2.2 hM
  have hP := hP.up u_15 (by first | rfl | simp [inN])
  refine lv_aload_n hx hb dX0_init_66 rfl (lv_at hl 0 rfl) ?_
  refine lv_iload_n hx hb dX0_init_67 rfl (lv_at hl 2 rfl) ?_
  refine c_putF (i := nm a 0) (ty := tyX0 1) (fs1 := [.int n, .int v, .ref q_1, .ref q_3, .int 0, .ref q_5, .ref q_7, .ref q_9, .ref q_11, .int 0, .ref q_13, .int 0]) X hw hS ha_nm_a_0 hc_nm_a_0 rfl gX0 tyX0 tyX0_ok nmX0 1 (by decide) fl_X0_41 rfl rfl hnm rfl (tyX0_ok 1 (by decide)) rfl rfl (show 1 < 12 by decide) rfl dX0_init_68 (fun M_16 H locs u_16 hw hS => ?_)
  have hc_nm_a_0 := u_16.1
  have hc_nm_a_1 := (u_16.2.1 (nm a 1) (nm_ne2 (by omega))).trans hc_nm_a_1
  have hc_nm_a_2 := (u_16.2.1 (nm a 2) (nm_ne2 (by omega))).trans hc_nm_a_2
  have hc_nm_a_3 := (u_16.2.1 (nm a 3) (nm_ne2 (by omega))).trans hc_nm_a_3
  have hc_nm_a_4 := (u_16.2.1 (nm a 4) (nm_ne2 (by omega))).trans hc_nm_a_4
  have hc_nm_a_5 := (u_16.2.1 (nm a 5) (nm_ne2 (by omega))).trans hc_nm_a_5
  have hc_nm_a_6 := (u_16.2.1 (nm a 6) (nm_ne2 (by omega))).trans hc_nm_a_6
  have hc_nm_a_7 := (u_16.2.1 (nm a 7) (nm_ne2 (by omega))).trans hc_nm_a_7
  have hM := u_16.2.2 hM
  have hP := hP.up u_16 (by first | rfl | simp [inN])
  exact m_vret X hr hlk hw hS (Nat.le_of_ble_eq_true rfl) (Nat.le_of_ble_eq_true rfl) ⟨hP, by rw [ha_nm_a_1, ha_nm_a_2, ha_nm_a_3, ha_nm_a_4, ha_nm_a_5, ha_nm_a_6, ha_nm_a_7]; exact hc_nm_a_0, by exact hc_nm_a_1, by exact hc_nm_a_2, by exact hc_nm_a_3, by exact hc_nm_a_4, by exact hc_nm_a_5, by exact hc_nm_a_6, by exact hc_nm_a_7⟩ dX0_init_71
