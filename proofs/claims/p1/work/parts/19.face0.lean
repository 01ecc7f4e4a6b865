/-! THE CLASS'S FACE ON A NEW OBJECT -/
/-- the world of a new object -/
def cFr (Γ : mG) (L : mI → Nat) (M : mM) : Prop := mget M (nm 0 0) = some (.inr (7, [.ref (L (nm 0 1)), .ref (L (nm 0 3)), .ref (L (nm 0 10))])) ∧ mget M (nm 0 1) = some (.inr (5, [.ref (L (nm 0 2)), .int 0])) ∧ mget M (nm 0 2) = some (.inl (Γ.2.1 3, 8, .inr (.inr (.inr (.inr (fun _ => none)))))) ∧ mget M (nm 0 3) = some (.inr (2, [.ref (L (nm 0 4)), .ref (L (nm 0 5)), .ref (L (nm 0 7)), .int 0, .int 0, .int 0])) ∧ mget M (nm 0 5) = some (.inr (4, [.ref (L (nm 0 6)), .int (-1)])) ∧ mget M (nm 0 6) = some (.inl (Γ.2.1 0, 16, .inl (fun _ => 0))) ∧ mget M (nm 0 7) = some (.inr (6, [.ref (L (nm 0 8)), .int 0, .int 0])) ∧ mget M (nm 0 8) = some (.inr (4, [.ref (L (nm 0 9)), .int (-1)])) ∧ mget M (nm 0 9) = some (.inl (Γ.2.1 0, 16, .inl (fun _ => 0))) ∧ mget M (nm 0 10) = some (.inr (3, [.ref (L (nm 0 11)), .ref (L (nm 0 16)), .ref (L (nm 0 17)), .ref (L (nm 0 18)), .ref (L (nm 0 19)), .ref (L (nm 0 20)), .int 0, .int 0, .int 0, .int 0, .int 0, .int 0, .int (-99999999), .int (-99999999)])) ∧ mget M (nm 0 11) = some (.inr (1, [.ref (L (nm 0 12)), .ref (L (nm 0 13)), .ref (L (nm 0 14)), .ref (L (nm 0 15)), .int 0])) ∧ mget M (nm 0 12) = some (.inl (Γ.2.1 0, 21, .inl (fun _ => 0))) ∧ mget M (nm 0 13) = some (.inl (Γ.2.1 0, 21, .inl (fun _ => 0))) ∧ mget M (nm 0 14) = some (.inl (Γ.2.1 0, 21, .inl (fun _ => 0))) ∧ mget M (nm 0 15) = some (.inl (Γ.2.1 0, 630, .inl (fun _ => 0))) ∧ mget M (nm 0 16) = some (.inl (Γ.2.1 3, 8, .inr (.inr (.inr (.inr (fun _ => none)))))) ∧ mget M (nm 0 17) = some (.inl (Γ.2.1 0, 8, .inl (fun _ => 0))) ∧ mget M (nm 0 18) = some (.inl (Γ.2.1 0, 8, .inl (fun _ => 0))) ∧ mget M (nm 0 19) = some (.inl (Γ.2.1 1, 64, .inr (.inl (fun _ => 0)))) ∧ mget M (nm 0 20) = some (.inl (Γ.2.1 1, 64, .inr (.inl (fun _ => 0)))) ∧ aOK Γ L M
def c_at (n : Nat) (g : Nat → Option Nat) (v : Int64) : Option Nat := if 0 ≤ v.toInt ∧ v.toInt < n then g v.toInt.toNat else none
theorem i64_nI {n : Nat} (h : n ≤ 8) : (nI n).toInt64.toInt = n := by
  rw [i64_toInt, nI_toInt (by omega)]
theorem at_nat {n : Nat} {v : Int64} (hn : n ≤ 8) (h1 : ¬ v < 0) (h2 : ¬ ¬ v < (nI n).toInt64) : v.toInt32 = nI v.toInt.toNat ∧ v.toInt.toNat < n ∧ 0 ≤ v.toInt := by
  have e0 : (0 : Int64).toInt = 0 := by decide
  have a1 : 0 ≤ v.toInt := by
    have : ¬ v.toInt < (0 : Int64).toInt := fun z => h1 (Int64.lt_iff_toInt_lt.mpr z)
    omega
  have a2 : v.toInt < n := by
    have := Int64.lt_iff_toInt_lt.mp (Classical.not_not.mp h2)
    rw [i64_nI hn] at this
    exact this
  refine ⟨?_, by omega, a1⟩
  have hb : v.toInt < 8 := by omega
  apply Int32.toInt_inj.mp
  rw [nI_toInt (by omega)]
  rw [Int64.toInt_toInt32]
  rw [Int.bmod_eq_of_le (by omega) (by omega)]
  omega
theorem at_none {n : Nat} {g : Nat → Option Nat} {v : Int64} (hn : n ≤ 8) (h : v < 0 ∨ ¬ v < (nI n).toInt64) : c_at n g v = none := by
  unfold c_at
  rw [if_neg]
  rintro ⟨a, b⟩
  rcases h with h | h
  · have := Int64.lt_iff_toInt_lt.mp h
    have e0 : (0 : Int64).toInt = 0 := by decide
    omega
  · apply h
    rw [Int64.lt_iff_toInt_lt, i64_nI hn]
    exact b
theorem at_some {n : Nat} {g : Nat → Option Nat} {v : Int64} (hn : n ≤ 8) (h1 : ¬ v < 0) (h2 : ¬ ¬ v < (nI n).toInt64) : c_at n g v = g (v.toInt32).toNatClampNeg := by
  obtain ⟨a, b, c⟩ := at_nat hn h1 h2
  unfold c_at
  rw [if_pos ⟨c, by omega⟩, a, nI_clamp (by omega)]
theorem c_at0 (g : Nat → Option Nat) (v : Int64) : c_at 0 g v = none := by
  unfold c_at
  rw [if_neg (by omega)]
def f_method (a : Int32) : Int32 := if a < 0 ∨ ¬ a ≤ 4 then -1 else 0
def f_told (a : Int32) : Int32 := if a = 0 then 0 else if a = 1 then 0 else if a = 2 then 0 else if a = 3 then -99999999 else if a = 4 then -99999999 else -1
theorem f_told_out {a : Int32} (h : a.toInt < 0 ∨ 4 < a.toInt) : f_told a = -1 := by
  unfold f_told
  rw [if_neg (fun e => by rw [e] at h; revert h; decide), if_neg (fun e => by rw [e] at h; revert h; decide), if_neg (fun e => by rw [e] at h; revert h; decide), if_neg (fun e => by rw [e] at h; revert h; decide), if_neg (fun e => by rw [e] at h; revert h; decide)]
def f_count (a : Int32) : Int32 := if a = 0 then 0 else -1
theorem v_X7_at : mVm yX7_at cX7_at 3 (some (.object "KindJudge$Code")) 1 := ⟨cd_X7_at, im_X7_at, se_X7_at, ini_X7, by decide, by decide, by decide +kernel⟩
set_option maxHeartbeats 4000000 in
set_option maxRecDepth 100000 in
theorem k_X7_at (Γ : mG) (l : Launch) (L : mI → Nat) (M : mM) (n : Nat) (hn8 : n ≤ 8) (g : Nat → Option Nat) (v : Int64) (r0 : Nat) (ha_s : L (nm 0 1) = r0) (hc_nm_0_1 : mget M (nm 0 1) = some (.inr (5, [.ref (L (nm 0 2)), .int (nI n)]))) (hc_nm_0_2 : mget M (nm 0 2) = some (.inl (Γ.2.1 3, 8, .inr (.inr (.inr (.inr (g))))))) (hM : 0 < M.2.length)  : mMet Γ l yX7_at cX7_at 3 (some (.object "KindJudge$Code")) { frames := 0, cells := 0, slots := 0, locals := 0 } [.ref r0, .long v] L M (mQq Γ (fun q L1 M1 => q = c_at n g v ∧ L1 = L ∧ M1 = M)) := by
  refine m_start (by decide) (Nat.le_of_ble_eq_true rfl) ?_
  intro p e s m args below meth c A ls X hr hlk hnm hw hS hl
  have hx := X.1.1
  have hb := X.1.2.1
  have hl : lv_has ls 3 [(0, .ref r0), (1, .long v)] := hl
  refine lv_lload_n hx hb dX7_at_0 rfl (lv_at hl 1 rfl) ?_
  refine lv_lconst (v := 0) hx hb dX7_at_1 (by decide) ?_
  refine m_lcmp_lt (tgt := 26) hx hb dX7_at_2 dX7_at_3 (by decide) (fun c_1 => ?_) (fun c_1 => ?_)
  · skip
    refine lv_null hx hb dX7_at_26 ?_
    exact m_qret (v := none) X hr hlk hw hS (Nat.le_of_ble_eq_true rfl) (Nat.le_of_ble_eq_true rfl) ⟨(at_none hn8 (by first | exact Or.inl (by assumption) | exact Or.inr (by assumption))).symm, rfl, rfl⟩ dX7_at_27
  · skip
    refine lv_lload_n hx hb dX7_at_6 rfl (lv_at hl 1 rfl) ?_
    refine lv_aload_n hx hb dX7_at_7 rfl (lv_at hl 0 rfl) ?_
    refine c_get (i := nm 0 1) X hw ha_s hc_nm_0_1 rfl gX7 1 (by decide) fl_X7_17 rfl rfl dX7_at_8 ?_
    refine lv_i2l (v := (nI n).toInt64) hx hb dX7_at_11 rfl ?_
    refine m_lcmp_ge (tgt := 26) hx hb dX7_at_12 dX7_at_13 (by decide) (fun c_2 => ?_) (fun c_2 => ?_)
    · skip
      refine lv_null hx hb dX7_at_26 ?_
      exact m_qret (v := none) X hr hlk hw hS (Nat.le_of_ble_eq_true rfl) (Nat.le_of_ble_eq_true rfl) ⟨(at_none hn8 (by first | exact Or.inl (by assumption) | exact Or.inr (by assumption))).symm, rfl, rfl⟩ dX7_at_27
    · skip
      refine lv_aload_n hx hb dX7_at_16 rfl (lv_at hl 0 rfl) ?_
      refine c_get (i := nm 0 1) X hw ha_s hc_nm_0_1 rfl gX7 0 (by decide) fl_X7_13 rfl rfl dX7_at_17 ?_
      refine lv_lload_n hx hb dX7_at_20 rfl (lv_at hl 1 rfl) ?_
      refine lv_l2i (v := v.toInt32) hx hb dX7_at_21 rfl ?_
      refine c_aald (i := nm 0 2) (t := 3) X hw rfl rfl hc_nm_0_2 (vp_inN (at_nat hn8 (by assumption) (by assumption)).1 (by have := (at_nat hn8 ‹¬ v < 0› (by assumption)).2.1; omega) (by omega)) dX7_at_22 ?_
      refine lv_goto (tgt := 27) hx hb dX7_at_23 (by decide) ?_
      exact m_qret X hr hlk hw hS (Nat.le_of_ble_eq_true rfl) (Nat.le_of_ble_eq_true rfl) ⟨(at_some hn8 (by assumption) (by assumption)).symm, rfl, rfl⟩ dX7_at_27
theorem i_X0_init : mIm yX0_init cX0_init 3 2 := ⟨cd_X0_init, im_X0_init, ini_X0, rfl, by decide, by decide, by decide +kernel⟩
set_option maxHeartbeats 4000000 in
set_option maxRecDepth 100000 in
theorem k_X0_init (Γ : mG) (l : Launch) (L : mI → Nat) (M : mM) (a : Nat) (n : Int32) (v : Int32) (r0 : Nat) (ha_s : L (nm a 0) = r0) (hc_s : mget M (nm a 0) = some (.inr (0, [.int 0, .int 0, .null, .null, .int 0, .null, .null, .null, .null, .int 0, .null, .int 0]))) (hM : 0 < M.2.length)  : mMet Γ l yX0_init cX0_init 3 none { frames := 1, cells := 7, slots := 144, locals := 12 } [.ref r0, .int n, .int v] L M (mQv Γ (fun L1 M1 => cP L M L1 M1 (inN [(a, 1), (a, 2), (a, 3), (a, 4), (a, 5), (a, 6), (a, 7)] []) (inN [(a, 0)] []) ∧ mget M1 (nm a 0) = some (.inr (0, [.int n, .int v, .ref (L1 (nm a 1)), .ref (L1 (nm a 2)), .int 0, .ref (L1 (nm a 3)), .ref (L1 (nm a 4)), .ref (L1 (nm a 5)), .ref (L1 (nm a 6)), .int 0, .ref (L1 (nm a 7)), .int 0])) ∧ mget M1 (nm a 1) = some (.inl (Γ.2.1 0, 40, .inl (fun _ => 0))) ∧ mget M1 (nm a 2) = some (.inl (Γ.2.1 1, 40, .inr (.inl (fun _ => 0)))) ∧ mget M1 (nm a 3) = some (.inl (Γ.2.1 0, 6, .inl (fun _ => 0))) ∧ mget M1 (nm a 4) = some (.inl (Γ.2.1 0, 6, .inl (fun _ => 0))) ∧ mget M1 (nm a 5) = some (.inl (Γ.2.1 0, 6, .inl (fun _ => 0))) ∧ mget M1 (nm a 6) = some (.inl (Γ.2.1 0, 6, .inl (fun _ => 0))) ∧ mget M1 (nm a 7) = some (.inl (Γ.2.1 4, 40, .inr (.inr (.inr (.inr (fun _ => none)))))))) := by
  refine m_start (by decide) (Nat.le_of_ble_eq_true rfl) ?_
  intro p e s m args below meth c A ls X hr hlk hnm hw hS hl
  have hx := X.1.1
  have hb := X.1.2.1
  have hP : cP L M L M (inN [(a, 1), (a, 2), (a, 3), (a, 4), (a, 5), (a, 6), (a, 7)] []) (inN [(a, 0)] []) := cP.rf
  have hc_nm_a_0 := hc_s
  have hl : lv_has ls 3 [(0, .ref r0), (1, .int n), (2, .int v)] := hl
  refine lv_aload_n hx hb dX0_init_0 rfl (lv_at hl 0 rfl) ?_
  refine c_objInit X ml_X0_3 hl.1 dX0_init_1 (Nat.le_of_ble_eq_true rfl) (Nat.le_of_ble_eq_true rfl) ?_
  refine lv_aload_n hx hb dX0_init_4 rfl (lv_at hl 0 rfl) ?_
  refine lv_bipush (v := 40) hx hb dX0_init_5 (by decide) ?_
  refine c_newi (N' := 40) X hw hS hM a 1 (by decide) (by decide) (Nat.le_of_ble_eq_true rfl) (Nat.le_of_ble_eq_true rfl) (Nat.le_of_ble_eq_true rfl) dX0_init_7 (fun q_1 L_1 M_1 H hq_1 hL_1 u_1 hw hS => ?_)
  have hc_nm_a_1 := u_1.1
  have ha_nm_a_1 := hq_1
  have hc_nm_a_0 := (u_1.2.1 (nm a 0) (nm_ne2 (by omega))).trans hc_nm_a_0
  have ha_nm_a_0 : _ = r0 := (hL_1 (nm a 0) (nm_ne2 (by omega))).trans ha_s
  have hM := u_1.2.2 hM
  have hP := hP.new u_1 hL_1 (by first | rfl | simp [inN])
  refine c_putF (i := nm a 0) (ty := tyX0 2) (fs1 := [.int 0, .int 0, .ref q_1, .null, .int 0, .null, .null, .null, .null, .int 0, .null, .int 0]) X hw hS ha_nm_a_0 hc_nm_a_0 rfl gX0 tyX0 tyX0_ok nmX0 2 (by decide) fl_X0_11 rfl rfl hnm rfl (tyX0_ok 2 (by decide)) rfl rfl (show 2 < 12 by decide) rfl dX0_init_9 (fun M_2 H locs u_2 hw hS => ?_)
  have hc_nm_a_0 := u_2.1
  have hc_nm_a_1 := (u_2.2.1 (nm a 1) (nm_ne2 (by omega))).trans hc_nm_a_1
  have hM := u_2.2.2 hM
  have hP := hP.up u_2 (by first | rfl | simp [inN])
  refine lv_aload_n hx hb dX0_init_12 rfl (lv_at hl 0 rfl) ?_
  refine lv_bipush (v := 40) hx hb dX0_init_13 (by decide) ?_
  refine c_newl (N' := 40) X hw hS hM a 2 (by decide) (by decide) (Nat.le_of_ble_eq_true rfl) (Nat.le_of_ble_eq_true rfl) (Nat.le_of_ble_eq_true rfl) dX0_init_15 (fun q_3 L_3 M_3 H hq_3 hL_3 u_3 hw hS => ?_)
  have hc_nm_a_2 := u_3.1
  have ha_nm_a_2 := hq_3
  have hc_nm_a_0 := (u_3.2.1 (nm a 0) (nm_ne2 (by omega))).trans hc_nm_a_0
  have hc_nm_a_1 := (u_3.2.1 (nm a 1) (nm_ne2 (by omega))).trans hc_nm_a_1
  have ha_nm_a_0 : _ = r0 := (hL_3 (nm a 0) (nm_ne2 (by omega))).trans ha_nm_a_0
  have ha_nm_a_1 : _ = q_1 := (hL_3 (nm a 1) (nm_ne2 (by omega))).trans ha_nm_a_1
  have hM := u_3.2.2 hM
  have hP := hP.new u_3 hL_3 (by first | rfl | simp [inN])
  refine c_putF (i := nm a 0) (ty := tyX0 3) (fs1 := [.int 0, .int 0, .ref q_1, .ref q_3, .int 0, .null, .null, .null, .null, .int 0, .null, .int 0]) X hw hS ha_nm_a_0 hc_nm_a_0 rfl gX0 tyX0 tyX0_ok nmX0 3 (by decide) fl_X0_15 rfl rfl hnm rfl (tyX0_ok 3 (by decide)) rfl rfl (show 3 < 12 by decide) rfl dX0_init_17 (fun M_4 H locs u_4 hw hS => ?_)
  have hc_nm_a_0 := u_4.1
  have hc_nm_a_1 := (u_4.2.1 (nm a 1) (nm_ne2 (by omega))).trans hc_nm_a_1
  have hc_nm_a_2 := (u_4.2.1 (nm a 2) (nm_ne2 (by omega))).trans hc_nm_a_2
  have hM := u_4.2.2 hM
  have hP := hP.up u_4 (by first | rfl | simp [inN])
  refine lv_aload_n hx hb dX0_init_20 rfl (lv_at hl 0 rfl) ?_
  refine lv_bipush (v := 6) hx hb dX0_init_21 (by decide) ?_
  refine c_newi (N' := 6) X hw hS hM a 3 (by decide) (by decide) (Nat.le_of_ble_eq_true rfl) (Nat.le_of_ble_eq_true rfl) (Nat.le_of_ble_eq_true rfl) dX0_init_23 (fun q_5 L_5 M_5 H hq_5 hL_5 u_5 hw hS => ?_)
  have hc_nm_a_3 := u_5.1
  have ha_nm_a_3 := hq_5
  have hc_nm_a_0 := (u_5.2.1 (nm a 0) (nm_ne2 (by omega))).trans hc_nm_a_0
  have hc_nm_a_1 := (u_5.2.1 (nm a 1) (nm_ne2 (by omega))).trans hc_nm_a_1
  have hc_nm_a_2 := (u_5.2.1 (nm a 2) (nm_ne2 (by omega))).trans hc_nm_a_2
  have ha_nm_a_0 : _ = r0 := (hL_5 (nm a 0) (nm_ne2 (by omega))).trans ha_nm_a_0
  have ha_nm_a_1 : _ = q_1 := (hL_5 (nm a 1) (nm_ne2 (by omega))).trans ha_nm_a_1
  have ha_nm_a_2 : _ = q_3 := (hL_5 (nm a 2) (nm_ne2 (by omega))).trans ha_nm_a_2
  have hM := u_5.2.2 hM
  have hP := hP.new u_5 hL_5 (by first | rfl | simp [inN])
  refine c_putF (i := nm a 0) (ty := tyX0 5) (fs1 := [.int 0, .int 0, .ref q_1, .ref q_3, .int 0, .ref q_5, .null, .null, .null, .int 0, .null, .int 0]) X hw hS ha_nm_a_0 hc_nm_a_0 rfl gX0 tyX0 tyX0_ok nmX0 5 (by decide) fl_X0_19 rfl rfl hnm rfl (tyX0_ok 5 (by decide)) rfl rfl (show 5 < 12 by decide) rfl dX0_init_25 (fun M_6 H locs u_6 hw hS => ?_)
  have hc_nm_a_0 := u_6.1
  have hc_nm_a_1 := (u_6.2.1 (nm a 1) (nm_ne2 (by omega))).trans hc_nm_a_1
  have hc_nm_a_2 := (u_6.2.1 (nm a 2) (nm_ne2 (by omega))).trans hc_nm_a_2
  have hc_nm_a_3 := (u_6.2.1 (nm a 3) (nm_ne2 (by omega))).trans hc_nm_a_3
  have hM := u_6.2.2 hM
  have hP := hP.up u_6 (by first | rfl | simp [inN])
  refine lv_aload_n hx hb dX0_init_28 rfl (lv_at hl 0 rfl) ?_
  refine lv_bipush (v := 6) hx hb dX0_init_29 (by decide) ?_
  refine c_newi (N' := 6) X hw hS hM a 4 (by decide) (by decide) (Nat.le_of_ble_eq_true rfl) (Nat.le_of_ble_eq_true rfl) (Nat.le_of_ble_eq_true rfl) dX0_init_31 (fun q_7 L_7 M_7 H hq_7 hL_7 u_7 hw hS => ?_)
  have hc_nm_a_4 := u_7.1
  have ha_nm_a_4 := hq_7
  have hc_nm_a_0 := (u_7.2.1 (nm a 0) (nm_ne2 (by omega))).trans hc_nm_a_0
  have hc_nm_a_1 := (u_7.2.1 (nm a 1) (nm_ne2 (by omega))).trans hc_nm_a_1
  have hc_nm_a_2 := (u_7.2.1 (nm a 2) (nm_ne2 (by omega))).trans hc_nm_a_2
  have hc_nm_a_3 := (u_7.2.1 (nm a 3) (nm_ne2 (by omega))).trans hc_nm_a_3
  have ha_nm_a_0 : _ = r0 := (hL_7 (nm a 0) (nm_ne2 (by omega))).trans ha_nm_a_0
  have ha_nm_a_1 : _ = q_1 := (hL_7 (nm a 1) (nm_ne2 (by omega))).trans ha_nm_a_1
  have ha_nm_a_2 : _ = q_3 := (hL_7 (nm a 2) (nm_ne2 (by omega))).trans ha_nm_a_2
  have ha_nm_a_3 : _ = q_5 := (hL_7 (nm a 3) (nm_ne2 (by omega))).trans ha_nm_a_3
  have hM := u_7.2.2 hM
  have hP := hP.new u_7 hL_7 (by first | rfl | simp [inN])
  refine c_putF (i := nm a 0) (ty := tyX0 6) (fs1 := [.int 0, .int 0, .ref q_1, .ref q_3, .int 0, .ref q_5, .ref q_7, .null, .null, .int 0, .null, .int 0]) X hw hS ha_nm_a_0 hc_nm_a_0 rfl gX0 tyX0 tyX0_ok nmX0 6 (by decide) fl_X0_22 rfl rfl hnm rfl (tyX0_ok 6 (by decide)) rfl rfl (show 6 < 12 by decide) rfl dX0_init_33 (fun M_8 H locs u_8 hw hS => ?_)
  have hc_nm_a_0 := u_8.1
  have hc_nm_a_1 := (u_8.2.1 (nm a 1) (nm_ne2 (by omega))).trans hc_nm_a_1
  have hc_nm_a_2 := (u_8.2.1 (nm a 2) (nm_ne2 (by omega))).trans hc_nm_a_2
  have hc_nm_a_3 := (u_8.2.1 (nm a 3) (nm_ne2 (by omega))).trans hc_nm_a_3
  have hc_nm_a_4 := (u_8.2.1 (nm a 4) (nm_ne2 (by omega))).trans hc_nm_a_4
  have hM := u_8.2.2 hM
  have hP := hP.up u_8 (by first | rfl | simp [inN])
  refine lv_aload_n hx hb dX0_init_36 rfl (lv_at hl 0 rfl) ?_
  refine lv_bipush (v := 6) hx hb dX0_init_37 (by decide) ?_
  refine c_newi (N' := 6) X hw hS hM a 5 (by decide) (by decide) (Nat.le_of_ble_eq_true rfl) (Nat.le_of_ble_eq_true rfl) (Nat.le_of_ble_eq_true rfl) dX0_init_39 (fun q_9 L_9 M_9 H hq_9 hL_9 u_9 hw hS => ?_)
  have hc_nm_a_5 := u_9.1
  have ha_nm_a_5 := hq_9
  have hc_nm_a_0 := (u_9.2.1 (nm a 0) (nm_ne2 (by omega))).trans hc_nm_a_0
  have hc_nm_a_1 := (u_9.2.1 (nm a 1) (nm_ne2 (by omega))).trans hc_nm_a_1
  have hc_nm_a_2 := (u_9.2.1 (nm a 2) (nm_ne2 (by omega))).trans hc_nm_a_2
  have hc_nm_a_3 := (u_9.2.1 (nm a 3) (nm_ne2 (by omega))).trans hc_nm_a_3
  have hc_nm_a_4 := (u_9.2.1 (nm a 4) (nm_ne2 (by omega))).trans hc_nm_a_4
  have ha_nm_a_0 : _ = r0 := (hL_9 (nm a 0) (nm_ne2 (by omega))).trans ha_nm_a_0
  have ha_nm_a_1 : _ = q_1 := (hL_9 (nm a 1) (nm_ne2 (by omega))).trans ha_nm_a_1
  have ha_nm_a_2 : _ = q_3 := (hL_9 (nm a 2) (nm_ne2 (by omega))).trans ha_nm_a_2
  have ha_nm_a_3 : _ = q_5 := (hL_9 (nm a 3) (nm_ne2 (by omega))).trans ha_nm_a_3
  have ha_nm_a_4 : _ = q_7 := (hL_9 (nm a 4) (nm_ne2 (by omega))).trans ha_nm_a_4
  have hM := u_9.2.2 hM
  have hP := hP.new u_9 hL_9 (by first | rfl | simp [inN])
  refine c_putF (i := nm a 0) (ty := tyX0 7) (fs1 := [.int 0, .int 0, .ref q_1, .ref q_3, .int 0, .ref q_5, .ref q_7, .ref q_9, .null, .int 0, .null, .int 0]) X hw hS ha_nm_a_0 hc_nm_a_0 rfl gX0 tyX0 tyX0_ok nmX0 7 (by decide) fl_X0_25 rfl rfl hnm rfl (tyX0_ok 7 (by decide)) rfl rfl (show 7 < 12 by decide) rfl dX0_init_41 (fun M_10 H locs u_10 hw hS => ?_)
  have hc_nm_a_0 := u_10.1
  have hc_nm_a_1 := (u_10.2.1 (nm a 1) (nm_ne2 (by omega))).trans hc_nm_a_1
  have hc_nm_a_2 := (u_10.2.1 (nm a 2) (nm_ne2 (by omega))).trans hc_nm_a_2
  have hc_nm_a_3 := (u_10.2.1 (nm a 3) (nm_ne2 (by omega))).trans hc_nm_a_3
  have hc_nm_a_4 := (u_10.2.1 (nm a 4) (nm_ne2 (by omega))).trans hc_nm_a_4
  have hc_nm_a_5 := (u_10.2.1 (nm a 5) (nm_ne2 (by omega))).trans hc_nm_a_5
  have hM := u_10.2.2 hM
  have hP := hP.up u_10 (by first | rfl | simp [inN])
  refine lv_aload_n hx hb dX0_init_44 rfl (lv_at hl 0 rfl) ?_
  refine lv_bipush (v := 6) hx hb dX0_init_45 (by decide) ?_
  refine c_newi (N' := 6) X hw hS hM a 6 (by decide) (by decide) (Nat.le_of_ble_eq_true rfl) (Nat.le_of_ble_eq_true rfl) (Nat.le_of_ble_eq_true rfl) dX0_init_47 (fun q_11 L_11 M_11 H hq_11 hL_11 u_11 hw hS => ?_)
  have hc_nm_a_6 := u_11.1
  have ha_nm_a_6 := hq_11
  have hc_nm_a_0 := (u_11.2.1 (nm a 0) (nm_ne2 (by omega))).trans hc_nm_a_0
  have hc_nm_a_1 := (u_11.2.1 (nm a 1) (nm_ne2 (by omega))).trans hc_nm_a_1
  have hc_nm_a_2 := (u_11.2.1 (nm a 2) (nm_ne2 (by omega))).trans hc_nm_a_2
  have hc_nm_a_3 := (u_11.2.1 (nm a 3) (nm_ne2 (by omega))).trans hc_nm_a_3
  have hc_nm_a_4 := (u_11.2.1 (nm a 4) (nm_ne2 (by omega))).trans hc_nm_a_4
  have hc_nm_a_5 := (u_11.2.1 (nm a 5) (nm_ne2 (by omega))).trans hc_nm_a_5
  have ha_nm_a_0 : _ = r0 := (hL_11 (nm a 0) (nm_ne2 (by omega))).trans ha_nm_a_0
  have ha_nm_a_1 : _ = q_1 := (hL_11 (nm a 1) (nm_ne2 (by omega))).trans ha_nm_a_1
  have ha_nm_a_2 : _ = q_3 := (hL_11 (nm a 2) (nm_ne2 (by omega))).trans ha_nm_a_2
  have ha_nm_a_3 : _ = q_5 := (hL_11 (nm a 3) (nm_ne2 (by omega))).trans ha_nm_a_3
  have ha_nm_a_4 : _ = q_7 := (hL_11 (nm a 4) (nm_ne2 (by omega))).trans ha_nm_a_4
  have ha_nm_a_5 : _ = q_9 := (hL_11 (nm a 5) (nm_ne2 (by omega))).trans ha_nm_a_5
  have hM := u_11.2.2 hM
  have hP := hP.new u_11 hL_11 (by first | rfl | simp [inN])
  refine c_putF (i := nm a 0) (ty := tyX0 8) (fs1 := [.int 0, .int 0, .ref q_1, .ref q_3, .int 0, .ref q_5, .ref q_7, .ref q_9, .ref q_11, .int 0, .null, .int 0]) X hw hS ha_nm_a_0 hc_nm_a_0 rfl gX0 tyX0 tyX0_ok nmX0 8 (by decide) fl_X0_28 rfl rfl hnm rfl (tyX0_ok 8 (by decide)) rfl rfl (show 8 < 12 by decide) rfl dX0_init_49 (fun M_12 H locs u_12 hw hS => ?_)
  have hc_nm_a_0 := u_12.1
  have hc_nm_a_1 := (u_12.2.1 (nm a 1) (nm_ne2 (by omega))).trans hc_nm_a_1
  have hc_nm_a_2 := (u_12.2.1 (nm a 2) (nm_ne2 (by omega))).trans hc_nm_a_2
  have hc_nm_a_3 := (u_12.2.1 (nm a 3) (nm_ne2 (by omega))).trans hc_nm_a_3
  have hc_nm_a_4 := (u_12.2.1 (nm a 4) (nm_ne2 (by omega))).trans hc_nm_a_4
  have hc_nm_a_5 := (u_12.2.1 (nm a 5) (nm_ne2 (by omega))).trans hc_nm_a_5
  have hc_nm_a_6 := (u_12.2.1 (nm a 6) (nm_ne2 (by omega))).trans hc_nm_a_6
  have hM := u_12.2.2 hM
  have hP := hP.up u_12 (by first | rfl | simp [inN])
  refine lv_aload_n hx hb dX0_init_52 rfl (lv_at hl 0 rfl) ?_
  refine lv_bipush (v := 40) hx hb dX0_init_53 (by decide) ?_
  refine c_newq (t := 4) (N' := 40) X hw hS hM a 7 rfl cl_X0_31 X.2.1.2.2.2 (by decide) (by decide) (Nat.le_of_ble_eq_true rfl) (Nat.le_of_ble_eq_true rfl) (Nat.le_of_ble_eq_true rfl) dX0_init_55 (fun q_13 L_13 M_13 H hq_13 hL_13 u_13 hw hS => ?_)
  have hc_nm_a_7 := u_13.1
  have ha_nm_a_7 := hq_13
  have hc_nm_a_0 := (u_13.2.1 (nm a 0) (nm_ne2 (by omega))).trans hc_nm_a_0
  have hc_nm_a_1 := (u_13.2.1 (nm a 1) (nm_ne2 (by omega))).trans hc_nm_a_1
  have hc_nm_a_2 := (u_13.2.1 (nm a 2) (nm_ne2 (by omega))).trans hc_nm_a_2
  have hc_nm_a_3 := (u_13.2.1 (nm a 3) (nm_ne2 (by omega))).trans hc_nm_a_3
  have hc_nm_a_4 := (u_13.2.1 (nm a 4) (nm_ne2 (by omega))).trans hc_nm_a_4
  have hc_nm_a_5 := (u_13.2.1 (nm a 5) (nm_ne2 (by omega))).trans hc_nm_a_5
  have hc_nm_a_6 := (u_13.2.1 (nm a 6) (nm_ne2 (by omega))).trans hc_nm_a_6
  have ha_nm_a_0 : _ = r0 := (hL_13 (nm a 0) (nm_ne2 (by omega))).trans ha_nm_a_0
  have ha_nm_a_1 : _ = q_1 := (hL_13 (nm a 1) (nm_ne2 (by omega))).trans ha_nm_a_1
  have ha_nm_a_2 : _ = q_3 := (hL_13 (nm a 2) (nm_ne2 (by omega))).trans ha_nm_a_2
  have ha_nm_a_3 : _ = q_5 := (hL_13 (nm a 3) (nm_ne2 (by omega))).trans ha_nm_a_3
  have ha_nm_a_4 : _ = q_7 := (hL_13 (nm a 4) (nm_ne2 (by omega))).trans ha_nm_a_4
  have ha_nm_a_5 : _ = q_9 := (hL_13 (nm a 5) (nm_ne2 (by omega))).trans ha_nm_a_5
  have ha_nm_a_6 : _ = q_11 := (hL_13 (nm a 6) (nm_ne2 (by omega))).trans ha_nm_a_6
  have hM := u_13.2.2 hM
  have hP := hP.new u_13 hL_13 (by first | rfl | simp [inN])
  refine c_putF (i := nm a 0) (ty := tyX0 10) (fs1 := [.int 0, .int 0, .ref q_1, .ref q_3, .int 0, .ref q_5, .ref q_7, .ref q_9, .ref q_11, .int 0, .ref q_13, .int 0]) X hw hS ha_nm_a_0 hc_nm_a_0 rfl gX0 tyX0 tyX0_ok nmX0 10 (by decide) fl_X0_33 rfl rfl hnm rfl (tyX0_ok 10 (by decide)) rfl rfl (show 10 < 12 by decide) rfl dX0_init_58 (fun M_14 H locs u_14 hw hS => ?_)
  have hc_nm_a_0 := u_14.1
  have hc_nm_a_1 := (u_14.2.1 (nm a 1) (nm_ne2 (by omega))).trans hc_nm_a_1
  have hc_nm_a_2 := (u_14.2.1 (nm a 2) (nm_ne2 (by omega))).trans hc_nm_a_2
  have hc_nm_a_3 := (u_14.2.1 (nm a 3) (nm_ne2 (by omega))).trans hc_nm_a_3
  have hc_nm_a_4 := (u_14.2.1 (nm a 4) (nm_ne2 (by omega))).trans hc_nm_a_4
  have hc_nm_a_5 := (u_14.2.1 (nm a 5) (nm_ne2 (by omega))).trans hc_nm_a_5
  have hc_nm_a_6 := (u_14.2.1 (nm a 6) (nm_ne2 (by omega))).trans hc_nm_a_6
  have hc_nm_a_7 := (u_14.2.1 (nm a 7) (nm_ne2 (by omega))).trans hc_nm_a_7
  have hM := u_14.2.2 hM
  have hP := hP.up u_14 (by first | rfl | simp [inN])
  refine lv_aload_n hx hb dX0_init_61 rfl (lv_at hl 0 rfl) ?_
  refine lv_iload_n hx hb dX0_init_62 rfl (lv_at hl 1 rfl) ?_
  refine c_putF (i := nm a 0) (ty := tyX0 0) (fs1 := [.int n, .int 0, .ref q_1, .ref q_3, .int 0, .ref q_5, .ref q_7, .ref q_9, .ref q_11, .int 0, .ref q_13, .int 0]) X hw hS ha_nm_a_0 hc_nm_a_0 rfl gX0 tyX0 tyX0_ok nmX0 0 (by decide) fl_X0_37 rfl rfl hnm rfl (tyX0_ok 0 (by decide)) rfl rfl (show 0 < 12 by decide) rfl dX0_init_63 (fun M_15 H locs u_15 hw hS => ?_)
  have hc_nm_a_0 := u_15.1
  have hc_nm_a_1 := (u_15.2.1 (nm a 1) (nm_ne2 (by omega))).trans hc_nm_a_1
  have hc_nm_a_2 := (u_15.2.1 (nm a 2) (nm_ne2 (by omega))).trans hc_nm_a_2
  have hc_nm_a_3 := (u_15.2.1 (nm a 3) (nm_ne2 (by omega))).trans hc_nm_a_3
  have hc_nm_a_4 := (u_15.2.1 (nm a 4) (nm_ne2 (by omega))).trans hc_nm_a_4
  have hc_nm_a_5 := (u_15.2.1 (nm a 5) (nm_ne2 (by omega))).trans hc_nm_a_5
  have hc_nm_a_6 := (u_15.2.1 (nm a 6) (nm_ne2 (by omega))).trans hc_nm_a_6
  have hc_nm_a_7 := (u_15.2.1 (nm a 7) (nm_ne2 (by omega))).trans hc_nm_a_7
  have hM := u_15.2.2 hM
  have hP := hP.up u_15 (by first | rfl | simp [inN])
  refine lv_aload_n hx hb dX0_init_66 rfl (lv_at hl 0 rfl) ?_
  refine lv_iload_n hx hb dX0_init_67 rfl (lv_at hl 2 rfl) ?_
  refine c_putF (i := nm a 0) (ty := tyX0 1) (fs1 := [.int n, .int v, .ref q_1, .ref q_3, .int 0, .ref q_5, .ref q_7, .ref q_9, .ref q_11, .int 0, .ref q_13, .int 0]) X hw hS ha_nm_a_0 hc_nm_a_0 rfl gX0 tyX0 tyX0_ok nmX0 1 (by decide) fl_X0_41 rfl rfl hnm rfl (tyX0_ok 1 (by decide)) rfl rfl (show 1 < 12 by decide) rfl dX0_init_68 (fun M_16 H locs u_16 hw hS => ?_)
  have hc_nm_a_0 := u_16.1
  have hc_nm_a_1 := (u_16.2.1 (nm a 1) (nm_ne2 (by omega))).trans hc_nm_a_1
  have hc_nm_a_2 := (u_16.2.1 (nm a 2) (nm_ne2 (by omega))).trans hc_nm_a_2
  have hc_nm_a_3 := (u_16.2.1 (nm a 3) (nm_ne2 (by omega))).trans hc_nm_a_3
  have hc_nm_a_4 := (u_16.2.1 (nm a 4) (nm_ne2 (by omega))).trans hc_nm_a_4
  have hc_nm_a_5 := (u_16.2.1 (nm a 5) (nm_ne2 (by omega))).trans hc_nm_a_5
  have hc_nm_a_6 := (u_16.2.1 (nm a 6) (nm_ne2 (by omega))).trans hc_nm_a_6
  have hc_nm_a_7 := (u_16.2.1 (nm a 7) (nm_ne2 (by omega))).trans hc_nm_a_7
  have hM := u_16.2.2 hM
  have hP := hP.up u_16 (by first | rfl | simp [inN])
  exact m_vret X hr hlk hw hS (Nat.le_of_ble_eq_true rfl) (Nat.le_of_ble_eq_true rfl) ⟨hP, by rw [ha_nm_a_1, ha_nm_a_2, ha_nm_a_3, ha_nm_a_4, ha_nm_a_5, ha_nm_a_6, ha_nm_a_7]; exact hc_nm_a_0, by exact hc_nm_a_1, by exact hc_nm_a_2, by exact hc_nm_a_3, by exact hc_nm_a_4, by exact hc_nm_a_5, by exact hc_nm_a_6, by exact hc_nm_a_7⟩ dX0_init_71
theorem v_X7_add : mVm yX7_add cX7_add 2 (some .int) 1 := ⟨cd_X7_add, im_X7_add, se_X7_add, ini_X7, by decide, by decide, by decide +kernel⟩
set_option maxHeartbeats 4000000 in
set_option maxRecDepth 100000 in
theorem k_X7_add (Γ : mG) (l : Launch) (L : mI → Nat) (M : mM)  (v : Int32) (r0 : Nat) (ha_s : L (nm 0 1) = r0) (hc_nm_0_1 : mget M (nm 0 1) = some (.inr (5, [.ref (L (nm 0 2)), .int 0]))) (hc_nm_0_2 : mget M (nm 0 2) = some (.inl (Γ.2.1 3, 8, .inr (.inr (.inr (.inr (fun _ => none))))))) (hM : 0 < M.2.length)  : mMet Γ l yX7_add cX7_add 2 (some .int) { frames := 2, cells := 8, slots := 156, locals := 34 } [.ref r0, .int v] L M (mQi Γ (fun r _ _ => r = 0)) := by
  refine m_start (by decide) (Nat.le_of_ble_eq_true rfl) ?_
  intro p e s m args below meth c A ls X hr hlk hnm hw hS hl
  have hx := X.1.1
  have hb := X.1.2.1
  have hl : lv_has ls 2 [(0, .ref r0), (1, .int v)] := hl
  refine lv_aload_n hx hb dX7_add_0 rfl (lv_at hl 0 rfl) ?_
  refine c_get (i := nm 0 1) X hw ha_s hc_nm_0_1 rfl gX7 1 (by decide) fl_X7_17 rfl rfl dX7_add_1 ?_
  refine lv_bipush (v := 8) hx hb dX7_add_4 (by decide) ?_
  refine lv_icmp_lt (tgt := 12) hx hb dX7_add_6 (by decide) (fun c_1 => ?_) (fun c_1 => ?_)
  · skip
    refine lv_aload_n hx hb dX7_add_12 rfl (lv_at hl 0 rfl) ?_
    refine c_get (i := nm 0 1) X hw ha_s hc_nm_0_1 rfl gX7 0 (by decide) fl_X7_13 rfl rfl dX7_add_13 ?_
    refine lv_aload_n hx hb dX7_add_16 rfl (lv_at hl 0 rfl) ?_
    refine c_get (i := nm 0 1) X hw ha_s hc_nm_0_1 rfl gX7 1 (by decide) fl_X7_17 rfl rfl dX7_add_17 ?_
    refine c_new (ci := 0) (fs := [.int 0, .int 0, .null, .null, .int 0, .null, .null, .null, .null, .int 0, .null, .int 0]) X hw hS hM 2 0 rfl gX0 tyX0 tyX0_ok cl_X7_11 ins_X0 ini_X0 dvX0 (Nat.le_of_ble_eq_true rfl) (Nat.le_of_ble_eq_true rfl) dX7_add_20 (fun q_2 L_2 M_2 H hq_2 hL_2 u_2 hw hS => ?_)
    have hc_nm_2_0 := u_2.1
    have ha_nm_2_0 := hq_2
    have hc_nm_0_1 := (u_2.2.1 (nm 0 1) (nm_ne1 (by omega))).trans hc_nm_0_1
    have hc_nm_0_2 := (u_2.2.1 (nm 0 2) (nm_ne1 (by omega))).trans hc_nm_0_2
    have ha_nm_0_1 : _ = r0 := (hL_2 (nm 0 1) (nm_ne1 (by omega))).trans ha_s
    have ha_nm_0_2 : _ = L (nm 0 2) := (hL_2 (nm 0 2) (nm_ne1 (by omega))).trans rfl
    have hM := u_2.2.2 hM
    refine lv_dup hx hb dX7_add_23 rfl ?_
    refine lv_aload_n hx hb dX7_add_24 rfl (lv_at hl 0 rfl) ?_
    refine c_get (i := nm 0 1) X hw ha_nm_0_1 hc_nm_0_1 rfl gX7 1 (by decide) fl_X7_17 rfl rfl dX7_add_25 ?_
    refine lv_iload_n hx hb dX7_add_28 rfl (lv_at hl 1 rfl) ?_
    refine m_callv (m_runI (As := [.int 0, .int v]) (rest := [.ref q_2, .int 0, .ref (L (nm 0 2))]) X (k_X0_init Γ l L_2 M_2 2 0 v q_2 ha_nm_2_0 hc_nm_2_0 hM) i_X0_init ml_X7_21 hw hS rfl hl.1 ⟨Nat.le_of_ble_eq_true rfl, Nat.le_of_ble_eq_true rfl⟩ (Nat.le_of_ble_eq_true rfl) ⟨Nat.le_of_ble_eq_true rfl, Nat.le_of_ble_eq_true rfl⟩ dX7_add_29) hS (fun L_3 M_3 H locs hp_3 hw hS => ?_)
    obtain ⟨k_3, hc_nm_2_0, hc_nm_2_1, hc_nm_2_2, hc_nm_2_3, hc_nm_2_4, hc_nm_2_5, hc_nm_2_6, hc_nm_2_7⟩ := hp_3
    have ha_nm_0_1 : _ = r0 := (k_3.1 (nm 0 1) (by first | rfl | exact inN_one (by omega))).trans ha_nm_0_1
    have ha_nm_0_2 : _ = L (nm 0 2) := (k_3.1 (nm 0 2) (by first | rfl | exact inN_one (by omega))).trans ha_nm_0_2
    have ha_nm_2_0 : _ = q_2 := (k_3.1 (nm 2 0) (by first | rfl | exact inN_one (by omega))).trans ha_nm_2_0
    have hc_nm_0_1 := (k_3.2.1 (nm 0 1) (by first | rfl | exact inN_one (by omega)) (by first | rfl | exact inN_one (by omega))).trans hc_nm_0_1
    have hc_nm_0_2 := (k_3.2.1 (nm 0 2) (by first | rfl | exact inN_one (by omega)) (by first | rfl | exact inN_one (by omega))).trans hc_nm_0_2
    have hM := k_3.2.2 hM
    refine c_aast (i := nm 0 2) (j := nm 2 0) (ci := 0) (t := 3) X hw hS ha_nm_0_2 ha_nm_2_0 rfl hc_nm_0_2 hc_nm_2_0 rfl (vp_inN (t := 0) rfl (by decide) (by decide)) dX7_add_32 (fun M_4 H locs u_4 hw hS => ?_)
    have hc_nm_0_2 := u_4.1
    have hc_nm_0_1 := (u_4.2.1 (nm 0 1) (nm_ne2 (by omega))).trans hc_nm_0_1
    have hc_nm_2_0 := (u_4.2.1 (nm 2 0) (nm_ne1 (by omega))).trans hc_nm_2_0
    have hc_nm_2_1 := (u_4.2.1 (nm 2 1) (nm_ne1 (by omega))).trans hc_nm_2_1
    have hc_nm_2_2 := (u_4.2.1 (nm 2 2) (nm_ne1 (by omega))).trans hc_nm_2_2
    have hc_nm_2_3 := (u_4.2.1 (nm 2 3) (nm_ne1 (by omega))).trans hc_nm_2_3
    have hc_nm_2_4 := (u_4.2.1 (nm 2 4) (nm_ne1 (by omega))).trans hc_nm_2_4
    have hc_nm_2_5 := (u_4.2.1 (nm 2 5) (nm_ne1 (by omega))).trans hc_nm_2_5
    have hc_nm_2_6 := (u_4.2.1 (nm 2 6) (nm_ne1 (by omega))).trans hc_nm_2_6
    have hc_nm_2_7 := (u_4.2.1 (nm 2 7) (nm_ne1 (by omega))).trans hc_nm_2_7
    have hM := u_4.2.2 hM
    refine lv_aload_n hx hb dX7_add_33 rfl (lv_at hl 0 rfl) ?_
    refine lv_dup hx hb dX7_add_34 rfl ?_
    refine c_get (i := nm 0 1) X hw ha_nm_0_1 hc_nm_0_1 rfl gX7 1 (by decide) fl_X7_17 rfl rfl dX7_add_35 ?_
    refine lv_iconst (v := 1) hx hb dX7_add_38 (by decide) ?_
    refine lv_iadd hx hb dX7_add_39 ?_
    refine c_put (i := nm 0 1) (ty := tyX7 1) (fs1 := [.ref (L (nm 0 2)), .int (0 + 1)]) X hw hS ha_nm_0_1 hc_nm_0_1 rfl gX7 tyX7 tyX7_ok nmX7 1 (by decide) fl_X7_17 rfl rfl (tyX7_ok 1 (by decide)) rfl rfl (show 1 < 2 by decide) rfl dX7_add_40 (fun M_5 H locs u_5 hw hS => ?_)
    have hc_nm_0_1 := u_5.1
    have hc_nm_0_2 := (u_5.2.1 (nm 0 2) (nm_ne2 (by omega))).trans hc_nm_0_2
    have hc_nm_2_0 := (u_5.2.1 (nm 2 0) (nm_ne1 (by omega))).trans hc_nm_2_0
    have hc_nm_2_1 := (u_5.2.1 (nm 2 1) (nm_ne1 (by omega))).trans hc_nm_2_1
    have hc_nm_2_2 := (u_5.2.1 (nm 2 2) (nm_ne1 (by omega))).trans hc_nm_2_2
    have hc_nm_2_3 := (u_5.2.1 (nm 2 3) (nm_ne1 (by omega))).trans hc_nm_2_3
    have hc_nm_2_4 := (u_5.2.1 (nm 2 4) (nm_ne1 (by omega))).trans hc_nm_2_4
    have hc_nm_2_5 := (u_5.2.1 (nm 2 5) (nm_ne1 (by omega))).trans hc_nm_2_5
    have hc_nm_2_6 := (u_5.2.1 (nm 2 6) (nm_ne1 (by omega))).trans hc_nm_2_6
    have hc_nm_2_7 := (u_5.2.1 (nm 2 7) (nm_ne1 (by omega))).trans hc_nm_2_7
    have hM := u_5.2.2 hM
    refine lv_aload_n hx hb dX7_add_43 rfl (lv_at hl 0 rfl) ?_
    refine c_get (i := nm 0 1) X hw ha_nm_0_1 hc_nm_0_1 rfl gX7 1 (by decide) fl_X7_17 rfl rfl dX7_add_44 ?_
    refine lv_iconst (v := 1) hx hb dX7_add_47 (by decide) ?_
    refine lv_isub hx hb dX7_add_48 ?_
    exact m_iret X hr hlk hw hS (Nat.le_of_ble_eq_true rfl) (Nat.le_of_ble_eq_true rfl) (by first | rfl | decide) dX7_add_49
  · skip
    exact absurd c_1 (by decide)
theorem v_X9_method : mVm yX9_method cX9_method 2 (some .int) 1 := ⟨cd_X9_method, im_X9_method, se_X9_method, ini_X9, by decide, by decide, by decide +kernel⟩
set_option maxHeartbeats 4000000 in
set_option maxRecDepth 100000 in
theorem k_X9_method (Γ : mG) (l : Launch) (L : mI → Nat) (M : mM)  (a : Int32) (r0 : Nat) (ha_s : L (nm 0 0) = r0) (hc_nm_0_0 : mget M (nm 0 0) = some (.inr (7, [.ref (L (nm 0 1)), .ref (L (nm 0 3)), .ref (L (nm 0 10))]))) (hc_nm_0_1 : mget M (nm 0 1) = some (.inr (5, [.ref (L (nm 0 2)), .int 0]))) (hc_nm_0_2 : mget M (nm 0 2) = some (.inl (Γ.2.1 3, 8, .inr (.inr (.inr (.inr (fun _ => none))))))) (hM : 0 < M.2.length)  : mMet Γ l yX9_method cX9_method 2 (some .int) { frames := 3, cells := 8, slots := 156, locals := 55 } [.ref r0, .int a] L M (mQi Γ (fun r _ _ => r = f_method a)) := by
  refine m_start (by decide) (Nat.le_of_ble_eq_true rfl) ?_
  intro p e s m args below meth c A ls X hr hlk hnm hw hS hl
  have hx := X.1.1
  have hb := X.1.2.1
  have hl : lv_has ls 2 [(0, .ref r0), (1, .int a)] := hl
  refine lv_iload_n hx hb dX9_method_0 rfl (lv_at hl 1 rfl) ?_
  refine lv_if_lt (tgt := 9) hx hb dX9_method_1 (by decide) (fun c_1 => ?_) (fun c_1 => ?_)
  · skip
    refine lv_iconst (v := (-1)) hx hb dX9_method_9 (by decide) ?_
    exact m_iret X hr hlk hw hS (Nat.le_of_ble_eq_true rfl) (Nat.le_of_ble_eq_true rfl) (by clear hb hx hl hS hw hnm hlk hr X; first | rfl | (simp_all [f_method]; done)) dX9_method_10
  · skip
    refine lv_iload_n hx hb dX9_method_4 rfl (lv_at hl 1 rfl) ?_
    refine lv_iconst (v := 4) hx hb dX9_method_5 (by decide) ?_
    refine lv_icmp_le (tgt := 11) hx hb dX9_method_6 (by decide) (fun c_2 => ?_) (fun c_2 => ?_)
    · skip
      refine lv_aload_n hx hb dX9_method_11 rfl (lv_at hl 0 rfl) ?_
      refine c_get (i := nm 0 0) X hw ha_s hc_nm_0_0 rfl gX9 0 (by decide) fl_X9_10 rfl rfl dX9_method_12 ?_
      refine lv_iload_n hx hb dX9_method_15 rfl (lv_at hl 1 rfl) ?_
      refine m_calli (c_runV (i := nm 0 1) (ci := 5) (As := [.int a]) (rest := []) X (k_X7_add Γ l L M a (L (nm 0 1)) rfl hc_nm_0_1 hc_nm_0_2 hM) rfl v_X7_add ml_X9_30 hw hS hc_nm_0_1 rfl rfl rfl hl.1 ⟨Nat.le_of_ble_eq_true rfl, Nat.le_of_ble_eq_true rfl⟩ (Nat.le_of_ble_eq_true rfl) ⟨Nat.le_of_ble_eq_true rfl, Nat.le_of_ble_eq_true rfl⟩ dX9_method_16) hS (fun r_3 L_3 M_3 H locs hp_3 hw hS => ?_)
      subst hp_3
      exact m_iret X hr hlk hw hS (Nat.le_of_ble_eq_true rfl) (Nat.le_of_ble_eq_true rfl) (by clear hb hx hl hS hw hnm hlk hr X; first | rfl | (simp_all [f_method]; done)) dX9_method_19
    · skip
      refine lv_iconst (v := (-1)) hx hb dX9_method_9 (by decide) ?_
      exact m_iret X hr hlk hw hS (Nat.le_of_ble_eq_true rfl) (Nat.le_of_ble_eq_true rfl) (by clear hb hx hl hS hw hnm hlk hr X; first | rfl | (simp_all [f_method]; done)) dX9_method_10
theorem v_X9_op : mVm yX9_op cX9_op 6 (some .int) 3 := ⟨cd_X9_op, im_X9_op, se_X9_op, ini_X9, by decide, by decide, by decide +kernel⟩
set_option maxHeartbeats 4000000 in
set_option maxRecDepth 100000 in
theorem k_X9_op (Γ : mG) (l : Launch) (L : mI → Nat) (M : mM)  (a : Int32) (b : Int32) (v : Int64) (r0 : Nat) (ha_s : L (nm 0 0) = r0) (hc_nm_0_0 : mget M (nm 0 0) = some (.inr (7, [.ref (L (nm 0 1)), .ref (L (nm 0 3)), .ref (L (nm 0 10))]))) (hc_nm_0_1 : mget M (nm 0 1) = some (.inr (5, [.ref (L (nm 0 2)), .int 0]))) (hc_nm_0_2 : mget M (nm 0 2) = some (.inl (Γ.2.1 3, 8, .inr (.inr (.inr (.inr (fun _ => none))))))) (hM : 0 < M.2.length)  : mMet Γ l yX9_op cX9_op 6 (some .int) { frames := 1, cells := 0, slots := 0, locals := 22 } [.ref r0, .int a, .int b, .long v] L M (mQi Γ (fun r L1 M1 => r = -1 ∧ L1 = L ∧ M1 = M)) := by
  refine m_start (by decide) (Nat.le_of_ble_eq_true rfl) ?_
  intro p e s m args below meth c A ls X hr hlk hnm hw hS hl
  have hx := X.1.1
  have hb := X.1.2.1
  have hl : lv_has ls 6 [(0, .ref r0), (1, .int a), (2, .int b), (3, .long v)] := hl
  refine lv_aload_n hx hb dX9_op_0 rfl (lv_at hl 0 rfl) ?_
  refine c_get (i := nm 0 0) X hw ha_s hc_nm_0_0 rfl gX9 0 (by decide) fl_X9_10 rfl rfl dX9_op_1 ?_
  refine lv_iload_n hx hb dX9_op_4 rfl (lv_at hl 1 rfl) ?_
  refine lv_i2l (v := a.toInt64) hx hb dX9_op_5 rfl ?_
  refine m_callq (c_runV (i := nm 0 1) (ci := 5) (As := [.long a.toInt64]) (rest := []) X (k_X7_at Γ l L M 0 (by decide) (fun _ => none) a.toInt64 (L (nm 0 1)) rfl hc_nm_0_1 hc_nm_0_2 hM) rfl v_X7_at ml_X9_34 hw hS hc_nm_0_1 rfl rfl rfl hl.1 ⟨Nat.le_of_ble_eq_true rfl, Nat.le_of_ble_eq_true rfl⟩ (Nat.le_of_ble_eq_true rfl) ⟨Nat.le_of_ble_eq_true rfl, Nat.le_of_ble_eq_true rfl⟩ dX9_op_6) hS (fun r_1 L_1 M_1 H locs hp_1 hw hS => ?_)
  obtain ⟨e0, e1, e2⟩ := hp_1
  rw [c_at0] at e0; subst e0; rw [e1, e2] at hw; clear e1 e2
  refine lv_astoreN (lv' := [(5, .null), (0, .ref r0), (1, .int a), (2, .int b), (3, .long v)]) hx hb dX9_op_9 hl (by decide) rfl (fun ls hl => ?_)
  refine lv_aloadN hx hb dX9_op_11 (lv_at hl 0 rfl) ?_
  refine lv_ifnonnullN hx hb dX9_op_13 ?_
  refine lv_iconst (v := (-1)) hx hb dX9_op_16 (by decide) ?_
  exact m_iret X hr hlk hw hS (Nat.le_of_ble_eq_true rfl) (Nat.le_of_ble_eq_true rfl) ⟨by clear hb hx hl hS hw hnm hlk hr X; first | rfl | (simp_all [bI, f_method]; done) | (simp_all [bI, f_method]; rfl), rfl, rfl⟩ dX9_op_17
theorem v_X9_handler : mVm yX9_handler cX9_handler 7 (some .int) 5 := ⟨cd_X9_handler, im_X9_handler, se_X9_handler, ini_X9, by decide, by decide, by decide +kernel⟩
set_option maxHeartbeats 4000000 in
set_option maxRecDepth 100000 in
theorem k_X9_handler (Γ : mG) (l : Launch) (L : mI → Nat) (M : mM)  (a : Int32) (b : Int32) (d : Int32) (f : Int32) (g : Int32) (r0 : Nat) (ha_s : L (nm 0 0) = r0) (hc_nm_0_0 : mget M (nm 0 0) = some (.inr (7, [.ref (L (nm 0 1)), .ref (L (nm 0 3)), .ref (L (nm 0 10))]))) (hc_nm_0_1 : mget M (nm 0 1) = some (.inr (5, [.ref (L (nm 0 2)), .int 0]))) (hc_nm_0_2 : mget M (nm 0 2) = some (.inl (Γ.2.1 3, 8, .inr (.inr (.inr (.inr (fun _ => none))))))) (hM : 0 < M.2.length)  : mMet Γ l yX9_handler cX9_handler 7 (some .int) { frames := 1, cells := 0, slots := 0, locals := 22 } [.ref r0, .int a, .int b, .int d, .int f, .int g] L M (mQi Γ (fun r L1 M1 => r = -1 ∧ L1 = L ∧ M1 = M)) := by
  refine m_start (by decide) (Nat.le_of_ble_eq_true rfl) ?_
  intro p e s m args below meth c A ls X hr hlk hnm hw hS hl
  have hx := X.1.1
  have hb := X.1.2.1
  have hl : lv_has ls 7 [(0, .ref r0), (1, .int a), (2, .int b), (3, .int d), (4, .int f), (5, .int g)] := hl
  refine lv_aload_n hx hb dX9_handler_0 rfl (lv_at hl 0 rfl) ?_
  refine c_get (i := nm 0 0) X hw ha_s hc_nm_0_0 rfl gX9 0 (by decide) fl_X9_10 rfl rfl dX9_handler_1 ?_
  refine lv_iload_n hx hb dX9_handler_4 rfl (lv_at hl 1 rfl) ?_
  refine lv_i2l (v := a.toInt64) hx hb dX9_handler_5 rfl ?_
  refine m_callq (c_runV (i := nm 0 1) (ci := 5) (As := [.long a.toInt64]) (rest := []) X (k_X7_at Γ l L M 0 (by decide) (fun _ => none) a.toInt64 (L (nm 0 1)) rfl hc_nm_0_1 hc_nm_0_2 hM) rfl v_X7_at ml_X9_34 hw hS hc_nm_0_1 rfl rfl rfl hl.1 ⟨Nat.le_of_ble_eq_true rfl, Nat.le_of_ble_eq_true rfl⟩ (Nat.le_of_ble_eq_true rfl) ⟨Nat.le_of_ble_eq_true rfl, Nat.le_of_ble_eq_true rfl⟩ dX9_handler_6) hS (fun r_1 L_1 M_1 H locs hp_1 hw hS => ?_)
  obtain ⟨e0, e1, e2⟩ := hp_1
  rw [c_at0] at e0; subst e0; rw [e1, e2] at hw; clear e1 e2
  refine lv_astoreN (lv' := [(6, .null), (0, .ref r0), (1, .int a), (2, .int b), (3, .int d), (4, .int f), (5, .int g)]) hx hb dX9_handler_9 hl (by decide) rfl (fun ls hl => ?_)
  refine lv_aloadN hx hb dX9_handler_11 (lv_at hl 0 rfl) ?_
  refine lv_ifnullN (tgt := 31) hx hb dX9_handler_13 (by decide) ?_
  refine lv_iconst (v := (-1)) hx hb dX9_handler_31 (by decide) ?_
  exact m_iret X hr hlk hw hS (Nat.le_of_ble_eq_true rfl) (Nat.le_of_ble_eq_true rfl) ⟨by clear hb hx hl hS hw hnm hlk hr X; first | rfl | (simp_all [bI, f_method]; done) | (simp_all [bI, f_method]; rfl), rfl, rfl⟩ dX9_handler_32
theorem v_X9_frame : mVm yX9_frame cX9_frame 5 (some .int) 3 := ⟨cd_X9_frame, im_X9_frame, se_X9_frame, ini_X9, by decide, by decide, by decide +kernel⟩
set_option maxHeartbeats 4000000 in
set_option maxRecDepth 100000 in
theorem k_X9_frame (Γ : mG) (l : Launch) (L : mI → Nat) (M : mM)  (a : Int32) (b : Int32) (d : Int32) (r0 : Nat) (ha_s : L (nm 0 0) = r0) (hc_nm_0_0 : mget M (nm 0 0) = some (.inr (7, [.ref (L (nm 0 1)), .ref (L (nm 0 3)), .ref (L (nm 0 10))]))) (hc_nm_0_1 : mget M (nm 0 1) = some (.inr (5, [.ref (L (nm 0 2)), .int 0]))) (hc_nm_0_2 : mget M (nm 0 2) = some (.inl (Γ.2.1 3, 8, .inr (.inr (.inr (.inr (fun _ => none))))))) (hM : 0 < M.2.length)  : mMet Γ l yX9_frame cX9_frame 5 (some .int) { frames := 1, cells := 0, slots := 0, locals := 22 } [.ref r0, .int a, .int b, .int d] L M (mQi Γ (fun r L1 M1 => r = -1 ∧ L1 = L ∧ M1 = M)) := by
  refine m_start (by decide) (Nat.le_of_ble_eq_true rfl) ?_
  intro p e s m args below meth c A ls X hr hlk hnm hw hS hl
  have hx := X.1.1
  have hb := X.1.2.1
  have hl : lv_has ls 5 [(0, .ref r0), (1, .int a), (2, .int b), (3, .int d)] := hl
  refine lv_aload_n hx hb dX9_frame_0 rfl (lv_at hl 0 rfl) ?_
  refine c_get (i := nm 0 0) X hw ha_s hc_nm_0_0 rfl gX9 0 (by decide) fl_X9_10 rfl rfl dX9_frame_1 ?_
  refine lv_iload_n hx hb dX9_frame_4 rfl (lv_at hl 1 rfl) ?_
  refine lv_i2l (v := a.toInt64) hx hb dX9_frame_5 rfl ?_
  refine m_callq (c_runV (i := nm 0 1) (ci := 5) (As := [.long a.toInt64]) (rest := []) X (k_X7_at Γ l L M 0 (by decide) (fun _ => none) a.toInt64 (L (nm 0 1)) rfl hc_nm_0_1 hc_nm_0_2 hM) rfl v_X7_at ml_X9_34 hw hS hc_nm_0_1 rfl rfl rfl hl.1 ⟨Nat.le_of_ble_eq_true rfl, Nat.le_of_ble_eq_true rfl⟩ (Nat.le_of_ble_eq_true rfl) ⟨Nat.le_of_ble_eq_true rfl, Nat.le_of_ble_eq_true rfl⟩ dX9_frame_6) hS (fun r_1 L_1 M_1 H locs hp_1 hw hS => ?_)
  obtain ⟨e0, e1, e2⟩ := hp_1
  rw [c_at0] at e0; subst e0; rw [e1, e2] at hw; clear e1 e2
  refine lv_astoreN (lv' := [(4, .null), (0, .ref r0), (1, .int a), (2, .int b), (3, .int d)]) hx hb dX9_frame_9 hl (by decide) rfl (fun ls hl => ?_)
  refine lv_aloadN hx hb dX9_frame_11 (lv_at hl 0 rfl) ?_
  refine lv_ifnullN (tgt := 26) hx hb dX9_frame_13 (by decide) ?_
  refine lv_iconst (v := (-1)) hx hb dX9_frame_26 (by decide) ?_
  exact m_iret X hr hlk hw hS (Nat.le_of_ble_eq_true rfl) (Nat.le_of_ble_eq_true rfl) ⟨by clear hb hx hl hS hw hnm hlk hr X; first | rfl | (simp_all [bI, f_method]; done) | (simp_all [bI, f_method]; rfl), rfl, rfl⟩ dX9_frame_27
theorem v_X9_set : mVm yX9_set cX9_set 7 (some .int) 4 := ⟨cd_X9_set, im_X9_set, se_X9_set, ini_X9, by decide, by decide, by decide +kernel⟩
set_option maxHeartbeats 4000000 in
set_option maxRecDepth 100000 in
theorem k_X9_set (Γ : mG) (l : Launch) (L : mI → Nat) (M : mM)  (a : Int32) (b : Int32) (d : Int32) (f : Int32) (r0 : Nat) (ha_s : L (nm 0 0) = r0) (hc_nm_0_0 : mget M (nm 0 0) = some (.inr (7, [.ref (L (nm 0 1)), .ref (L (nm 0 3)), .ref (L (nm 0 10))]))) (hc_nm_0_1 : mget M (nm 0 1) = some (.inr (5, [.ref (L (nm 0 2)), .int 0]))) (hc_nm_0_2 : mget M (nm 0 2) = some (.inl (Γ.2.1 3, 8, .inr (.inr (.inr (.inr (fun _ => none))))))) (hM : 0 < M.2.length)  : mMet Γ l yX9_set cX9_set 7 (some .int) { frames := 1, cells := 0, slots := 0, locals := 22 } [.ref r0, .int a, .int b, .int d, .int f] L M (mQi Γ (fun r L1 M1 => r = -1 ∧ L1 = L ∧ M1 = M)) := by
  refine m_start (by decide) (Nat.le_of_ble_eq_true rfl) ?_
  intro p e s m args below meth c A ls X hr hlk hnm hw hS hl
  have hx := X.1.1
  have hb := X.1.2.1
  have hl : lv_has ls 7 [(0, .ref r0), (1, .int a), (2, .int b), (3, .int d), (4, .int f)] := hl
  refine lv_aload_n hx hb dX9_set_0 rfl (lv_at hl 0 rfl) ?_
  refine c_get (i := nm 0 0) X hw ha_s hc_nm_0_0 rfl gX9 0 (by decide) fl_X9_10 rfl rfl dX9_set_1 ?_
  refine lv_iload_n hx hb dX9_set_4 rfl (lv_at hl 1 rfl) ?_
  refine lv_i2l (v := a.toInt64) hx hb dX9_set_5 rfl ?_
  refine m_callq (c_runV (i := nm 0 1) (ci := 5) (As := [.long a.toInt64]) (rest := []) X (k_X7_at Γ l L M 0 (by decide) (fun _ => none) a.toInt64 (L (nm 0 1)) rfl hc_nm_0_1 hc_nm_0_2 hM) rfl v_X7_at ml_X9_34 hw hS hc_nm_0_1 rfl rfl rfl hl.1 ⟨Nat.le_of_ble_eq_true rfl, Nat.le_of_ble_eq_true rfl⟩ (Nat.le_of_ble_eq_true rfl) ⟨Nat.le_of_ble_eq_true rfl, Nat.le_of_ble_eq_true rfl⟩ dX9_set_6) hS (fun r_1 L_1 M_1 H locs hp_1 hw hS => ?_)
  obtain ⟨e0, e1, e2⟩ := hp_1
  rw [c_at0] at e0; subst e0; rw [e1, e2] at hw; clear e1 e2
  refine lv_astoreN (lv' := [(5, .null), (0, .ref r0), (1, .int a), (2, .int b), (3, .int d), (4, .int f)]) hx hb dX9_set_9 hl (by decide) rfl (fun ls hl => ?_)
  refine lv_aloadN hx hb dX9_set_11 (lv_at hl 0 rfl) ?_
  refine lv_ifnonnullN hx hb dX9_set_13 ?_
  refine lv_iconst (v := (-1)) hx hb dX9_set_16 (by decide) ?_
  exact m_iret X hr hlk hw hS (Nat.le_of_ble_eq_true rfl) (Nat.le_of_ble_eq_true rfl) ⟨by clear hb hx hl hS hw hnm hlk hr X; first | rfl | (simp_all [bI, f_method]; done) | (simp_all [bI, f_method]; rfl), rfl, rfl⟩ dX9_set_17
theorem v_X9_judge : mVm yX9_judge cX9_judge 4 (some .int) 1 := ⟨cd_X9_judge, im_X9_judge, se_X9_judge, ini_X9, by decide, by decide, by decide +kernel⟩
set_option maxHeartbeats 4000000 in
set_option maxRecDepth 100000 in
theorem k_X9_judge (Γ : mG) (l : Launch) (L : mI → Nat) (M : mM)  (a : Int32) (r0 : Nat) (ha_s : L (nm 0 0) = r0) (hc_nm_0_0 : mget M (nm 0 0) = some (.inr (7, [.ref (L (nm 0 1)), .ref (L (nm 0 3)), .ref (L (nm 0 10))]))) (hc_nm_0_1 : mget M (nm 0 1) = some (.inr (5, [.ref (L (nm 0 2)), .int 0]))) (hc_nm_0_2 : mget M (nm 0 2) = some (.inl (Γ.2.1 3, 8, .inr (.inr (.inr (.inr (fun _ => none))))))) (hM : 0 < M.2.length)  : mMet Γ l yX9_judge cX9_judge 4 (some .int) { frames := 1, cells := 0, slots := 0, locals := 22 } [.ref r0, .int a] L M (mQi Γ (fun r L1 M1 => r = -1 ∧ L1 = L ∧ M1 = M)) := by
  refine m_start (by decide) (Nat.le_of_ble_eq_true rfl) ?_
  intro p e s m args below meth c A ls X hr hlk hnm hw hS hl
  have hx := X.1.1
  have hb := X.1.2.1
  have hl : lv_has ls 4 [(0, .ref r0), (1, .int a)] := hl
  refine lv_aload_n hx hb dX9_judge_0 rfl (lv_at hl 0 rfl) ?_
  refine c_get (i := nm 0 0) X hw ha_s hc_nm_0_0 rfl gX9 0 (by decide) fl_X9_10 rfl rfl dX9_judge_1 ?_
  refine lv_iload_n hx hb dX9_judge_4 rfl (lv_at hl 1 rfl) ?_
  refine lv_i2l (v := a.toInt64) hx hb dX9_judge_5 rfl ?_
  refine m_callq (c_runV (i := nm 0 1) (ci := 5) (As := [.long a.toInt64]) (rest := []) X (k_X7_at Γ l L M 0 (by decide) (fun _ => none) a.toInt64 (L (nm 0 1)) rfl hc_nm_0_1 hc_nm_0_2 hM) rfl v_X7_at ml_X9_34 hw hS hc_nm_0_1 rfl rfl rfl hl.1 ⟨Nat.le_of_ble_eq_true rfl, Nat.le_of_ble_eq_true rfl⟩ (Nat.le_of_ble_eq_true rfl) ⟨Nat.le_of_ble_eq_true rfl, Nat.le_of_ble_eq_true rfl⟩ dX9_judge_6) hS (fun r_1 L_1 M_1 H locs hp_1 hw hS => ?_)
  obtain ⟨e0, e1, e2⟩ := hp_1
  rw [c_at0] at e0; subst e0; rw [e1, e2] at hw; clear e1 e2
  refine lv_astore_nN (lv' := [(2, .null), (0, .ref r0), (1, .int a)]) hx hb dX9_judge_9 rfl hl (by decide) rfl (fun ls hl => ?_)
  refine lv_aload_nN hx hb dX9_judge_10 rfl (lv_at hl 0 rfl) ?_
  refine lv_ifnonnullN hx hb dX9_judge_11 ?_
  refine lv_iconst (v := (-1)) hx hb dX9_judge_14 (by decide) ?_
  exact m_iret X hr hlk hw hS (Nat.le_of_ble_eq_true rfl) (Nat.le_of_ble_eq_true rfl) ⟨by clear hb hx hl hS hw hnm hlk hr X; first | rfl | (simp_all [bI, f_method]; done) | (simp_all [bI, f_method]; rfl), rfl, rfl⟩ dX9_judge_15
theorem v_X9_join : mVm yX9_join cX9_join 4 (some .int) 1 := ⟨cd_X9_join, im_X9_join, se_X9_join, ini_X9, by decide, by decide, by decide +kernel⟩
set_option maxHeartbeats 4000000 in
set_option maxRecDepth 100000 in
theorem k_X9_join (Γ : mG) (l : Launch) (L : mI → Nat) (M : mM)  (a : Int32) (r0 : Nat) (ha_s : L (nm 0 0) = r0) (hc_nm_0_0 : mget M (nm 0 0) = some (.inr (7, [.ref (L (nm 0 1)), .ref (L (nm 0 3)), .ref (L (nm 0 10))]))) (hc_nm_0_1 : mget M (nm 0 1) = some (.inr (5, [.ref (L (nm 0 2)), .int 0]))) (hc_nm_0_2 : mget M (nm 0 2) = some (.inl (Γ.2.1 3, 8, .inr (.inr (.inr (.inr (fun _ => none))))))) (hM : 0 < M.2.length)  : mMet Γ l yX9_join cX9_join 4 (some .int) { frames := 1, cells := 0, slots := 0, locals := 22 } [.ref r0, .int a] L M (mQi Γ (fun r L1 M1 => r = -1 ∧ L1 = L ∧ M1 = M)) := by
  refine m_start (by decide) (Nat.le_of_ble_eq_true rfl) ?_
  intro p e s m args below meth c A ls X hr hlk hnm hw hS hl
  have hx := X.1.1
  have hb := X.1.2.1
  have hl : lv_has ls 4 [(0, .ref r0), (1, .int a)] := hl
  refine lv_aload_n hx hb dX9_join_0 rfl (lv_at hl 0 rfl) ?_
  refine c_get (i := nm 0 0) X hw ha_s hc_nm_0_0 rfl gX9 0 (by decide) fl_X9_10 rfl rfl dX9_join_1 ?_
  refine lv_iload_n hx hb dX9_join_4 rfl (lv_at hl 1 rfl) ?_
  refine lv_i2l (v := a.toInt64) hx hb dX9_join_5 rfl ?_
  refine m_callq (c_runV (i := nm 0 1) (ci := 5) (As := [.long a.toInt64]) (rest := []) X (k_X7_at Γ l L M 0 (by decide) (fun _ => none) a.toInt64 (L (nm 0 1)) rfl hc_nm_0_1 hc_nm_0_2 hM) rfl v_X7_at ml_X9_34 hw hS hc_nm_0_1 rfl rfl rfl hl.1 ⟨Nat.le_of_ble_eq_true rfl, Nat.le_of_ble_eq_true rfl⟩ (Nat.le_of_ble_eq_true rfl) ⟨Nat.le_of_ble_eq_true rfl, Nat.le_of_ble_eq_true rfl⟩ dX9_join_6) hS (fun r_1 L_1 M_1 H locs hp_1 hw hS => ?_)
  obtain ⟨e0, e1, e2⟩ := hp_1
  rw [c_at0] at e0; subst e0; rw [e1, e2] at hw; clear e1 e2
  refine lv_astore_nN (lv' := [(2, .null), (0, .ref r0), (1, .int a)]) hx hb dX9_join_9 rfl hl (by decide) rfl (fun ls hl => ?_)
  refine lv_aload_nN hx hb dX9_join_10 rfl (lv_at hl 0 rfl) ?_
  refine lv_ifnonnullN hx hb dX9_join_11 ?_
  refine lv_iconst (v := (-1)) hx hb dX9_join_14 (by decide) ?_
  exact m_iret X hr hlk hw hS (Nat.le_of_ble_eq_true rfl) (Nat.le_of_ble_eq_true rfl) ⟨by clear hb hx hl hS hw hnm hlk hr X; first | rfl | (simp_all [bI, f_method]; done) | (simp_all [bI, f_method]; rfl), rfl, rfl⟩ dX9_join_15
theorem v_X9_run : mVm yX9_run cX9_run 7 (some .int) 5 := ⟨cd_X9_run, im_X9_run, se_X9_run, ini_X9, by decide, by decide, by decide +kernel⟩
set_option maxHeartbeats 4000000 in
set_option maxRecDepth 100000 in
theorem k_X9_run (Γ : mG) (l : Launch) (L : mI → Nat) (M : mM)  (a : Int32) (b : Int32) (d : Int32) (f : Int32) (g : Int32) (r0 : Nat) (ha_s : L (nm 0 0) = r0) (hc_nm_0_0 : mget M (nm 0 0) = some (.inr (7, [.ref (L (nm 0 1)), .ref (L (nm 0 3)), .ref (L (nm 0 10))]))) (hc_nm_0_1 : mget M (nm 0 1) = some (.inr (5, [.ref (L (nm 0 2)), .int 0]))) (hc_nm_0_2 : mget M (nm 0 2) = some (.inl (Γ.2.1 3, 8, .inr (.inr (.inr (.inr (fun _ => none))))))) (hM : 0 < M.2.length)  : mMet Γ l yX9_run cX9_run 7 (some .int) { frames := 1, cells := 0, slots := 0, locals := 22 } [.ref r0, .int a, .int b, .int d, .int f, .int g] L M (mQi Γ (fun r L1 M1 => r = -1 ∧ L1 = L ∧ M1 = M)) := by
  refine m_start (by decide) (Nat.le_of_ble_eq_true rfl) ?_
  intro p e s m args below meth c A ls X hr hlk hnm hw hS hl
  have hx := X.1.1
  have hb := X.1.2.1
  have hl : lv_has ls 7 [(0, .ref r0), (1, .int a), (2, .int b), (3, .int d), (4, .int f), (5, .int g)] := hl
  refine lv_aload_n hx hb dX9_run_0 rfl (lv_at hl 0 rfl) ?_
  refine c_get (i := nm 0 0) X hw ha_s hc_nm_0_0 rfl gX9 0 (by decide) fl_X9_10 rfl rfl dX9_run_1 ?_
  refine lv_iload_n hx hb dX9_run_4 rfl (lv_at hl 1 rfl) ?_
  refine lv_i2l (v := a.toInt64) hx hb dX9_run_5 rfl ?_
  refine m_callq (c_runV (i := nm 0 1) (ci := 5) (As := [.long a.toInt64]) (rest := []) X (k_X7_at Γ l L M 0 (by decide) (fun _ => none) a.toInt64 (L (nm 0 1)) rfl hc_nm_0_1 hc_nm_0_2 hM) rfl v_X7_at ml_X9_34 hw hS hc_nm_0_1 rfl rfl rfl hl.1 ⟨Nat.le_of_ble_eq_true rfl, Nat.le_of_ble_eq_true rfl⟩ (Nat.le_of_ble_eq_true rfl) ⟨Nat.le_of_ble_eq_true rfl, Nat.le_of_ble_eq_true rfl⟩ dX9_run_6) hS (fun r_1 L_1 M_1 H locs hp_1 hw hS => ?_)
  obtain ⟨e0, e1, e2⟩ := hp_1
  rw [c_at0] at e0; subst e0; rw [e1, e2] at hw; clear e1 e2
  refine lv_astoreN (lv' := [(6, .null), (0, .ref r0), (1, .int a), (2, .int b), (3, .int d), (4, .int f), (5, .int g)]) hx hb dX9_run_9 hl (by decide) rfl (fun ls hl => ?_)
  refine lv_aloadN hx hb dX9_run_11 (lv_at hl 0 rfl) ?_
  refine lv_ifnonnullN hx hb dX9_run_13 ?_
  refine lv_iconst (v := (-1)) hx hb dX9_run_16 (by decide) ?_
  exact m_iret X hr hlk hw hS (Nat.le_of_ble_eq_true rfl) (Nat.le_of_ble_eq_true rfl) ⟨by clear hb hx hl hS hw hnm hlk hr X; first | rfl | (simp_all [bI, f_method]; done) | (simp_all [bI, f_method]; rfl), rfl, rfl⟩ dX9_run_17
theorem v_X2_kindAhead : mVm yX2_kindAhead cX2_kindAhead 3 (some .int) 2 := ⟨cd_X2_kindAhead, im_X2_kindAhead, se_X2_kindAhead, ini_X2, by decide, by decide, by decide +kernel⟩
set_option maxHeartbeats 4000000 in
set_option maxRecDepth 100000 in
theorem k_X2_kindAhead (Γ : mG) (l : Launch) (L : mI → Nat) (M : mM)  (a : Int32) (b : Int32) (r0 : Nat) (ha_s : L (nm 0 3) = r0) (hc_nm_0_3 : mget M (nm 0 3) = some (.inr (2, [.ref (L (nm 0 4)), .ref (L (nm 0 5)), .ref (L (nm 0 7)), .int 0, .int 0, .int 0]))) (hM : 0 < M.2.length)  : mMet Γ l yX2_kindAhead cX2_kindAhead 3 (some .int) { frames := 0, cells := 0, slots := 0, locals := 0 } [.ref r0, .int a, .int b] L M (mQi Γ (fun r L1 M1 => r = -99999999 ∧ L1 = L ∧ M1 = M)) := by
  refine m_start (by decide) (Nat.le_of_ble_eq_true rfl) ?_
  intro p e s m args below meth c A ls X hr hlk hnm hw hS hl
  have hx := X.1.1
  have hb := X.1.2.1
  have hl : lv_has ls 3 [(0, .ref r0), (1, .int a), (2, .int b)] := hl
  refine lv_iload_n hx hb dX2_kindAhead_0 rfl (lv_at hl 1 rfl) ?_
  refine lv_if_lt (tgt := 31) hx hb dX2_kindAhead_1 (by decide) (fun c_1 => ?_) (fun c_1 => ?_)
  · skip
    refine lv_ldc (v := (-99999999)) hx hb X.1.2.2.2.1 (X.1.2.2.2.2 _ ki_X2_39) dX2_kindAhead_31 ?_
    exact m_iret X hr hlk hw hS (Nat.le_of_ble_eq_true rfl) (Nat.le_of_ble_eq_true rfl) ⟨by clear hb hx hl hS hw hnm hlk hr X; first | rfl | (simp_all [bI, f_method]; done) | (simp_all [bI, f_method]; rfl), rfl, rfl⟩ dX2_kindAhead_33
  · skip
    refine lv_iload_n hx hb dX2_kindAhead_4 rfl (lv_at hl 1 rfl) ?_
    refine lv_aload_n hx hb dX2_kindAhead_5 rfl (lv_at hl 0 rfl) ?_
    refine c_get (i := nm 0 3) X hw ha_s hc_nm_0_3 rfl gX2 3 (by decide) fl_X2_31 rfl rfl dX2_kindAhead_6 ?_
    refine lv_icmp_ge (tgt := 31) hx hb dX2_kindAhead_9 (by decide) (fun c_2 => ?_) (fun c_2 => ?_)
    · skip
      refine lv_ldc (v := (-99999999)) hx hb X.1.2.2.2.1 (X.1.2.2.2.2 _ ki_X2_39) dX2_kindAhead_31 ?_
      exact m_iret X hr hlk hw hS (Nat.le_of_ble_eq_true rfl) (Nat.le_of_ble_eq_true rfl) ⟨by clear hb hx hl hS hw hnm hlk hr X; first | rfl | (simp_all [bI, f_method]; done) | (simp_all [bI, f_method]; rfl), rfl, rfl⟩ dX2_kindAhead_33
    · skip
      exact absurd ‹¬ a < 0› (fun z => by have h2 := ‹¬ (0 : Int32) ≤ a›; exact h2 (Int32.not_lt.mp z))
theorem v_X9_kind : mVm yX9_kind cX9_kind 3 (some .int) 2 := ⟨cd_X9_kind, im_X9_kind, se_X9_kind, ini_X9, by decide, by decide, by decide +kernel⟩
set_option maxHeartbeats 4000000 in
set_option maxRecDepth 100000 in
theorem k_X9_kind (Γ : mG) (l : Launch) (L : mI → Nat) (M : mM)  (a : Int32) (b : Int32) (r0 : Nat) (ha_s : L (nm 0 0) = r0) (hc_nm_0_0 : mget M (nm 0 0) = some (.inr (7, [.ref (L (nm 0 1)), .ref (L (nm 0 3)), .ref (L (nm 0 10))]))) (hc_nm_0_3 : mget M (nm 0 3) = some (.inr (2, [.ref (L (nm 0 4)), .ref (L (nm 0 5)), .ref (L (nm 0 7)), .int 0, .int 0, .int 0]))) (hM : 0 < M.2.length)  : mMet Γ l yX9_kind cX9_kind 3 (some .int) { frames := 1, cells := 0, slots := 0, locals := 22 } [.ref r0, .int a, .int b] L M (mQi Γ (fun r L1 M1 => r = -99999999 ∧ L1 = L ∧ M1 = M)) := by
  refine m_start (by decide) (Nat.le_of_ble_eq_true rfl) ?_
  intro p e s m args below meth c A ls X hr hlk hnm hw hS hl
  have hx := X.1.1
  have hb := X.1.2.1
  have hl : lv_has ls 3 [(0, .ref r0), (1, .int a), (2, .int b)] := hl
  refine lv_aload_n hx hb dX9_kind_0 rfl (lv_at hl 0 rfl) ?_
  refine c_get (i := nm 0 0) X hw ha_s hc_nm_0_0 rfl gX9 1 (by decide) fl_X9_19 rfl rfl dX9_kind_1 ?_
  refine lv_iload_n hx hb dX9_kind_4 rfl (lv_at hl 1 rfl) ?_
  refine lv_iload_n hx hb dX9_kind_5 rfl (lv_at hl 2 rfl) ?_
  refine m_calli (c_runV (i := nm 0 3) (ci := 2) (As := [.int a, .int b]) (rest := []) X (k_X2_kindAhead Γ l L M a b (L (nm 0 3)) rfl hc_nm_0_3 hM) rfl v_X2_kindAhead ml_X9_82 hw hS hc_nm_0_3 rfl rfl rfl hl.1 ⟨Nat.le_of_ble_eq_true rfl, Nat.le_of_ble_eq_true rfl⟩ (Nat.le_of_ble_eq_true rfl) ⟨Nat.le_of_ble_eq_true rfl, Nat.le_of_ble_eq_true rfl⟩ dX9_kind_6) hS (fun r_1 L_1 M_1 H locs hp_1 hw hS => ?_)
  obtain ⟨rfl, e1, e2⟩ := hp_1
  rw [e1, e2] at hw; clear e1 e2
  exact m_iret X hr hlk hw hS (Nat.le_of_ble_eq_true rfl) (Nat.le_of_ble_eq_true rfl) ⟨by clear hb hx hl hS hw hnm hlk hr X; first | rfl | (simp_all [bI, f_method]; done) | (simp_all [bI, f_method]; rfl), rfl, rfl⟩ dX9_kind_9
theorem v_X9_rounds : mVm yX9_rounds cX9_rounds 1 (some .int) 0 := ⟨cd_X9_rounds, im_X9_rounds, se_X9_rounds, ini_X9, by decide, by decide, by decide +kernel⟩
set_option maxHeartbeats 4000000 in
set_option maxRecDepth 100000 in
theorem k_X9_rounds (Γ : mG) (l : Launch) (L : mI → Nat) (M : mM)   (r0 : Nat) (ha_s : L (nm 0 0) = r0) (hc_nm_0_0 : mget M (nm 0 0) = some (.inr (7, [.ref (L (nm 0 1)), .ref (L (nm 0 3)), .ref (L (nm 0 10))]))) (hc_nm_0_3 : mget M (nm 0 3) = some (.inr (2, [.ref (L (nm 0 4)), .ref (L (nm 0 5)), .ref (L (nm 0 7)), .int 0, .int 0, .int 0]))) (hM : 0 < M.2.length)  : mMet Γ l yX9_rounds cX9_rounds 1 (some .int) { frames := 0, cells := 0, slots := 0, locals := 0 } [.ref r0] L M (mQi Γ (fun r L1 M1 => r = 0 ∧ L1 = L ∧ M1 = M)) := by
  refine m_start (by decide) (Nat.le_of_ble_eq_true rfl) ?_
  intro p e s m args below meth c A ls X hr hlk hnm hw hS hl
  have hx := X.1.1
  have hb := X.1.2.1
  have hl : lv_has ls 1 [(0, .ref r0)] := hl
  refine lv_aload_n hx hb dX9_rounds_0 rfl (lv_at hl 0 rfl) ?_
  refine c_get (i := nm 0 0) X hw ha_s hc_nm_0_0 rfl gX9 1 (by decide) fl_X9_19 rfl rfl dX9_rounds_1 ?_
  refine c_get (i := nm 0 3) X hw rfl hc_nm_0_3 rfl gX2 5 (by decide) fl_X9_85 rfl rfl dX9_rounds_4 ?_
  exact m_iret X hr hlk hw hS (Nat.le_of_ble_eq_true rfl) (Nat.le_of_ble_eq_true rfl) ⟨by clear hb hx hl hS hw hnm hlk hr X; first | rfl | (simp_all [bI, f_method]; done) | (simp_all [bI, f_method]; rfl), rfl, rfl⟩ dX9_rounds_7
theorem v_X9_answer : mVm yX9_answer cX9_answer 1 (some .int) 0 := ⟨cd_X9_answer, im_X9_answer, se_X9_answer, ini_X9, by decide, by decide, by decide +kernel⟩
set_option maxHeartbeats 4000000 in
set_option maxRecDepth 100000 in
theorem k_X9_answer (Γ : mG) (l : Launch) (L : mI → Nat) (M : mM)   (r0 : Nat) (ha_s : L (nm 0 0) = r0) (hc_nm_0_0 : mget M (nm 0 0) = some (.inr (7, [.ref (L (nm 0 1)), .ref (L (nm 0 3)), .ref (L (nm 0 10))]))) (hc_nm_0_10 : mget M (nm 0 10) = some (.inr (3, [.ref (L (nm 0 11)), .ref (L (nm 0 16)), .ref (L (nm 0 17)), .ref (L (nm 0 18)), .ref (L (nm 0 19)), .ref (L (nm 0 20)), .int 0, .int 0, .int 0, .int 0, .int 0, .int 0, .int (-99999999), .int (-99999999)]))) (hM : 0 < M.2.length)  : mMet Γ l yX9_answer cX9_answer 1 (some .int) { frames := 0, cells := 0, slots := 0, locals := 0 } [.ref r0] L M (mQi Γ (fun r L1 M1 => r = 0 ∧ L1 = L ∧ M1 = M)) := by
  refine m_start (by decide) (Nat.le_of_ble_eq_true rfl) ?_
  intro p e s m args below meth c A ls X hr hlk hnm hw hS hl
  have hx := X.1.1
  have hb := X.1.2.1
  have hl : lv_has ls 1 [(0, .ref r0)] := hl
  refine lv_aload_n hx hb dX9_answer_0 rfl (lv_at hl 0 rfl) ?_
  refine c_get (i := nm 0 0) X hw ha_s hc_nm_0_0 rfl gX9 2 (by decide) fl_X9_26 rfl rfl dX9_answer_1 ?_
  refine c_get (i := nm 0 10) X hw rfl hc_nm_0_10 rfl gX4 9 (by decide) fl_X9_111 rfl rfl dX9_answer_4 ?_
  exact m_iret X hr hlk hw hS (Nat.le_of_ble_eq_true rfl) (Nat.le_of_ble_eq_true rfl) ⟨by clear hb hx hl hS hw hnm hlk hr X; first | rfl | (simp_all [bI, f_method]; done) | (simp_all [bI, f_method]; rfl), rfl, rfl⟩ dX9_answer_7
theorem v_X9_told : mVm yX9_told cX9_told 2 (some .int) 1 := ⟨cd_X9_told, im_X9_told, se_X9_told, ini_X9, by decide, by decide, by decide +kernel⟩
set_option maxHeartbeats 4000000 in
set_option maxRecDepth 100000 in
theorem k_X9_told (Γ : mG) (l : Launch) (L : mI → Nat) (M : mM)  (a : Int32) (r0 : Nat) (ha_s : L (nm 0 0) = r0) (hc_nm_0_0 : mget M (nm 0 0) = some (.inr (7, [.ref (L (nm 0 1)), .ref (L (nm 0 3)), .ref (L (nm 0 10))]))) (hc_nm_0_10 : mget M (nm 0 10) = some (.inr (3, [.ref (L (nm 0 11)), .ref (L (nm 0 16)), .ref (L (nm 0 17)), .ref (L (nm 0 18)), .ref (L (nm 0 19)), .ref (L (nm 0 20)), .int 0, .int 0, .int 0, .int 0, .int 0, .int 0, .int (-99999999), .int (-99999999)]))) (hc_nm_0_11 : mget M (nm 0 11) = some (.inr (1, [.ref (L (nm 0 12)), .ref (L (nm 0 13)), .ref (L (nm 0 14)), .ref (L (nm 0 15)), .int 0]))) (hM : 0 < M.2.length)  : mMet Γ l yX9_told cX9_told 2 (some .int) { frames := 0, cells := 0, slots := 0, locals := 0 } [.ref r0, .int a] L M (mQi Γ (fun r L1 M1 => r = f_told a ∧ L1 = L ∧ M1 = M)) := by
  refine m_start (by decide) (Nat.le_of_ble_eq_true rfl) ?_
  intro p e s m args below meth c A ls X hr hlk hnm hw hS hl
  have hx := X.1.1
  have hb := X.1.2.1
  have hl : lv_has ls 2 [(0, .ref r0), (1, .int a)] := hl
  refine lv_iload_n hx hb dX9_told_0 rfl (lv_at hl 1 rfl) ?_
  by_cases c_1 : a.toInt < 0 ∨ 4 < a.toInt
  · refine lv_tableOut (tgt := 79) hx hb dX9_told_1 c_1 (by decide) ?_
    refine lv_iconst (v := (-1)) hx hb dX9_told_79 (by decide) ?_
    exact m_iret X hr hlk hw hS (Nat.le_of_ble_eq_true rfl) (Nat.le_of_ble_eq_true rfl) ⟨by clear hb hx hl hS hw hnm hlk hr X; first | exact (f_told_out (by assumption)).symm | (simp_all [f_told]; done), rfl, rfl⟩ dX9_told_80
  · have c_1b : a.toInt = 0 ∨ a.toInt = 1 ∨ a.toInt = 2 ∨ a.toInt = 3 ∨ a.toInt = 4 := by omega
    rcases c_1b with c_1v | c_1v | c_1v | c_1v | c_1v
    · have c_1e : a = 0 := Int32.toInt_inj.mp c_1v
      refine lv_tableIn (off := 35) (tgt := 36) hx hb dX9_told_1 (by omega) (by omega) (by rw [c_1v]; rfl) (by decide) ?_
      refine lv_aload_n hx hb dX9_told_36 rfl (lv_at hl 0 rfl) ?_
      refine c_get (i := nm 0 0) X hw ha_s hc_nm_0_0 rfl gX9 2 (by decide) fl_X9_26 rfl rfl dX9_told_37 ?_
      refine c_get (i := nm 0 10) X hw rfl hc_nm_0_10 rfl gX4 10 (by decide) fl_X9_114 rfl rfl dX9_told_40 ?_
      exact m_iret X hr hlk hw hS (Nat.le_of_ble_eq_true rfl) (Nat.le_of_ble_eq_true rfl) ⟨by clear hb hx hl hS hw hnm hlk hr X; first | exact (f_told_out (by assumption)).symm | (simp_all [f_told]; done), rfl, rfl⟩ dX9_told_43
    · have c_1e : a = 1 := Int32.toInt_inj.mp c_1v
      refine lv_tableIn (off := 43) (tgt := 44) hx hb dX9_told_1 (by omega) (by omega) (by rw [c_1v]; rfl) (by decide) ?_
      refine lv_aload_n hx hb dX9_told_44 rfl (lv_at hl 0 rfl) ?_
      refine c_get (i := nm 0 0) X hw ha_s hc_nm_0_0 rfl gX9 2 (by decide) fl_X9_26 rfl rfl dX9_told_45 ?_
      refine c_get (i := nm 0 10) X hw rfl hc_nm_0_10 rfl gX4 11 (by decide) fl_X9_117 rfl rfl dX9_told_48 ?_
      exact m_iret X hr hlk hw hS (Nat.le_of_ble_eq_true rfl) (Nat.le_of_ble_eq_true rfl) ⟨by clear hb hx hl hS hw hnm hlk hr X; first | exact (f_told_out (by assumption)).symm | (simp_all [f_told]; done), rfl, rfl⟩ dX9_told_51
    · have c_1e : a = 2 := Int32.toInt_inj.mp c_1v
      refine lv_tableIn (off := 51) (tgt := 52) hx hb dX9_told_1 (by omega) (by omega) (by rw [c_1v]; rfl) (by decide) ?_
      refine lv_aload_n hx hb dX9_told_52 rfl (lv_at hl 0 rfl) ?_
      refine c_get (i := nm 0 0) X hw ha_s hc_nm_0_0 rfl gX9 2 (by decide) fl_X9_26 rfl rfl dX9_told_53 ?_
      refine c_get (i := nm 0 10) X hw rfl hc_nm_0_10 rfl gX4 0 (by decide) fl_X9_120 rfl rfl dX9_told_56 ?_
      refine c_get (i := nm 0 11) X hw rfl hc_nm_0_11 rfl gX1 4 (by decide) fl_X9_124 rfl rfl dX9_told_59 ?_
      exact m_iret X hr hlk hw hS (Nat.le_of_ble_eq_true rfl) (Nat.le_of_ble_eq_true rfl) ⟨by clear hb hx hl hS hw hnm hlk hr X; first | exact (f_told_out (by assumption)).symm | (simp_all [f_told]; done), rfl, rfl⟩ dX9_told_62
    · have c_1e : a = 3 := Int32.toInt_inj.mp c_1v
      refine lv_tableIn (off := 62) (tgt := 63) hx hb dX9_told_1 (by omega) (by omega) (by rw [c_1v]; rfl) (by decide) ?_
      refine lv_aload_n hx hb dX9_told_63 rfl (lv_at hl 0 rfl) ?_
      refine c_get (i := nm 0 0) X hw ha_s hc_nm_0_0 rfl gX9 2 (by decide) fl_X9_26 rfl rfl dX9_told_64 ?_
      refine c_get (i := nm 0 10) X hw rfl hc_nm_0_10 rfl gX4 12 (by decide) fl_X9_129 rfl rfl dX9_told_67 ?_
      exact m_iret X hr hlk hw hS (Nat.le_of_ble_eq_true rfl) (Nat.le_of_ble_eq_true rfl) ⟨by clear hb hx hl hS hw hnm hlk hr X; first | exact (f_told_out (by assumption)).symm | (simp_all [f_told]; done), rfl, rfl⟩ dX9_told_70
    · have c_1e : a = 4 := Int32.toInt_inj.mp c_1v
      refine lv_tableIn (off := 70) (tgt := 71) hx hb dX9_told_1 (by omega) (by omega) (by rw [c_1v]; rfl) (by decide) ?_
      refine lv_aload_n hx hb dX9_told_71 rfl (lv_at hl 0 rfl) ?_
      refine c_get (i := nm 0 0) X hw ha_s hc_nm_0_0 rfl gX9 2 (by decide) fl_X9_26 rfl rfl dX9_told_72 ?_
      refine c_get (i := nm 0 10) X hw rfl hc_nm_0_10 rfl gX4 13 (by decide) fl_X9_132 rfl rfl dX9_told_75 ?_
      exact m_iret X hr hlk hw hS (Nat.le_of_ble_eq_true rfl) (Nat.le_of_ble_eq_true rfl) ⟨by clear hb hx hl hS hw hnm hlk hr X; first | exact (f_told_out (by assumption)).symm | (simp_all [f_told]; done), rfl, rfl⟩ dX9_told_78
theorem v_X9_count : mVm yX9_count cX9_count 4 (some .int) 2 := ⟨cd_X9_count, im_X9_count, se_X9_count, ini_X9, by decide, by decide, by decide +kernel⟩
set_option maxHeartbeats 4000000 in
set_option maxRecDepth 100000 in
theorem k_X9_count (Γ : mG) (l : Launch) (L : mI → Nat) (M : mM)  (a : Int32) (b : Int32) (r0 : Nat) (ha_s : L (nm 0 0) = r0) (hc_nm_0_0 : mget M (nm 0 0) = some (.inr (7, [.ref (L (nm 0 1)), .ref (L (nm 0 3)), .ref (L (nm 0 10))]))) (hc_nm_0_1 : mget M (nm 0 1) = some (.inr (5, [.ref (L (nm 0 2)), .int 0]))) (hc_nm_0_2 : mget M (nm 0 2) = some (.inl (Γ.2.1 3, 8, .inr (.inr (.inr (.inr (fun _ => none))))))) (hM : 0 < M.2.length)  : mMet Γ l yX9_count cX9_count 4 (some .int) { frames := 1, cells := 0, slots := 0, locals := 22 } [.ref r0, .int a, .int b] L M (mQi Γ (fun r L1 M1 => r = f_count a ∧ L1 = L ∧ M1 = M)) := by
  refine m_start (by decide) (Nat.le_of_ble_eq_true rfl) ?_
  intro p e s m args below meth c A ls X hr hlk hnm hw hS hl
  have hx := X.1.1
  have hb := X.1.2.1
  have hl : lv_has ls 4 [(0, .ref r0), (1, .int a), (2, .int b)] := hl
  refine lv_iload_n hx hb dX9_count_0 rfl (lv_at hl 1 rfl) ?_
  refine lv_if_ne (tgt := 12) hx hb dX9_count_1 (by decide) (fun c_1 => ?_) (fun c_1 => ?_)
  · skip
    refine lv_aload_n hx hb dX9_count_12 rfl (lv_at hl 0 rfl) ?_
    refine c_get (i := nm 0 0) X hw ha_s hc_nm_0_0 rfl gX9 0 (by decide) fl_X9_10 rfl rfl dX9_count_13 ?_
    refine lv_iload_n hx hb dX9_count_16 rfl (lv_at hl 2 rfl) ?_
    refine lv_i2l (v := b.toInt64) hx hb dX9_count_17 rfl ?_
    refine m_callq (c_runV (i := nm 0 1) (ci := 5) (As := [.long b.toInt64]) (rest := []) X (k_X7_at Γ l L M 0 (by decide) (fun _ => none) b.toInt64 (L (nm 0 1)) rfl hc_nm_0_1 hc_nm_0_2 hM) rfl v_X7_at ml_X9_34 hw hS hc_nm_0_1 rfl rfl rfl hl.1 ⟨Nat.le_of_ble_eq_true rfl, Nat.le_of_ble_eq_true rfl⟩ (Nat.le_of_ble_eq_true rfl) ⟨Nat.le_of_ble_eq_true rfl, Nat.le_of_ble_eq_true rfl⟩ dX9_count_18) hS (fun r_2 L_2 M_2 H locs hp_2 hw hS => ?_)
    obtain ⟨e0, e1, e2⟩ := hp_2
    rw [c_at0] at e0; subst e0; rw [e1, e2] at hw; clear e1 e2
    refine lv_astore_nN (lv' := [(3, .null), (0, .ref r0), (1, .int a), (2, .int b)]) hx hb dX9_count_21 rfl hl (by decide) rfl (fun ls hl => ?_)
    refine lv_aload_nN hx hb dX9_count_22 rfl (lv_at hl 0 rfl) ?_
    refine lv_ifnonnullN hx hb dX9_count_23 ?_
    refine lv_iconst (v := (-1)) hx hb dX9_count_26 (by decide) ?_
    exact m_iret X hr hlk hw hS (Nat.le_of_ble_eq_true rfl) (Nat.le_of_ble_eq_true rfl) ⟨by clear hb hx hl hS hw hnm hlk hr X; first | rfl | (simp_all [bI, f_count]; done) | (simp_all [bI, f_count]; rfl), rfl, rfl⟩ dX9_count_27
  · skip
    refine lv_aload_n hx hb dX9_count_4 rfl (lv_at hl 0 rfl) ?_
    refine c_get (i := nm 0 0) X hw ha_s hc_nm_0_0 rfl gX9 0 (by decide) fl_X9_10 rfl rfl dX9_count_5 ?_
    refine c_get (i := nm 0 1) X hw rfl hc_nm_0_1 rfl gX7 1 (by decide) fl_X9_135 rfl rfl dX9_count_8 ?_
    exact m_iret X hr hlk hw hS (Nat.le_of_ble_eq_true rfl) (Nat.le_of_ble_eq_true rfl) ⟨by clear hb hx hl hS hw hnm hlk hr X; first | rfl | (simp_all [bI, f_count]; done) | (simp_all [bI, f_count]; rfl), rfl, rfl⟩ dX9_count_11
theorem v_X9_kinds : mVm yX9_kinds cX9_kinds 4 (some .int) 3 := ⟨cd_X9_kinds, im_X9_kinds, se_X9_kinds, ini_X9, by decide, by decide, by decide +kernel⟩
set_option maxHeartbeats 4000000 in
set_option maxRecDepth 100000 in
theorem k_X9_kinds (Γ : mG) (l : Launch) (L : mI → Nat) (M : mM)  (a : Int32) (b : Int32) (g : Int32) (r0 : Nat) (ha_s : L (nm 0 0) = r0) (hM : 0 < M.2.length)  : mMet Γ l yX9_kinds cX9_kinds 4 (some .int) { frames := 3, cells := 0, slots := 0, locals := 65 } [.ref r0, .int a, .int b, .int g] L M (mQi Γ (fun r L1 M1 => r = k_kinds a b g ∧ L1 = L ∧ M1 = M)) := by
  refine m_start (by decide) (Nat.le_of_ble_eq_true rfl) ?_
  intro p e s m args below meth c A ls X hr hlk hnm hw hS hl
  have hx := X.1.1
  have hb := X.1.2.1
  have hl : lv_has ls 4 [(0, .ref r0), (1, .int a), (2, .int b), (3, .int g)] := hl
  refine lv_iload_n hx hb dX9_kinds_0 rfl (lv_at hl 1 rfl) ?_
  refine m_calli (m_runS (As := [.int a]) (rest := []) X (k_X3_isKind Γ l L (M) a ) s_X3_isKind ml_X9_62 hw hS rfl hl.1 ⟨Nat.le_of_ble_eq_true rfl, Nat.le_of_ble_eq_true rfl⟩ (Nat.le_of_ble_eq_true rfl) ⟨Nat.le_of_ble_eq_true rfl, Nat.le_of_ble_eq_true rfl⟩ dX9_kinds_1) hS (fun r_2 L1 M1 H locs hp_1 hw hS => ?_)
  obtain ⟨rfl, e1, e2⟩ := hp_1
  rw [e1, e2] at hw; clear e1 e2
  refine lv_if_eq (tgt := 14) hx hb dX9_kinds_4 (by decide) (fun c_3 => ?_) (fun c_3 => ?_)
  · skip
    have c_3 := bI_f c_3
    refine lv_iconst (v := (-1)) hx hb dX9_kinds_14 (by decide) ?_
    exact m_iret X hr hlk hw hS (Nat.le_of_ble_eq_true rfl) (Nat.le_of_ble_eq_true rfl) ⟨by clear hb hx hl hS hw hnm hlk hr X; first | rfl | (simp_all [bI, k_kinds]; done) | (simp_all [bI, k_kinds]; rfl), rfl, rfl⟩ dX9_kinds_15
  · skip
    have c_3 := bI_t c_3
    refine lv_iload_n hx hb dX9_kinds_7 rfl (lv_at hl 2 rfl) ?_
    refine m_calli (m_runS (As := [.int b]) (rest := []) X (k_X3_isKind Γ l L (M) b ) s_X3_isKind ml_X9_62 hw hS rfl hl.1 ⟨Nat.le_of_ble_eq_true rfl, Nat.le_of_ble_eq_true rfl⟩ (Nat.le_of_ble_eq_true rfl) ⟨Nat.le_of_ble_eq_true rfl, Nat.le_of_ble_eq_true rfl⟩ dX9_kinds_8) hS (fun r_5 L1 M1 H locs hp_4 hw hS => ?_)
    obtain ⟨rfl, e1, e2⟩ := hp_4
    rw [e1, e2] at hw; clear e1 e2
    refine lv_if_ne (tgt := 16) hx hb dX9_kinds_11 (by decide) (fun c_6 => ?_) (fun c_6 => ?_)
    · skip
      have c_6 := bI_t c_6
      refine lv_iload_n hx hb dX9_kinds_16 rfl (lv_at hl 3 rfl) ?_
      refine lv_if_eq (tgt := 34) hx hb dX9_kinds_17 (by decide) (fun c_7 => ?_) (fun c_7 => ?_)
      · skip
        refine lv_iload_n hx hb dX9_kinds_34 rfl (lv_at hl 1 rfl) ?_
        refine lv_iload_n hx hb dX9_kinds_35 rfl (lv_at hl 2 rfl) ?_
        refine m_calli (m_runS (As := [.int a, .int b]) (rest := []) X (k_X3_joinOf Γ l L (M) a b ) s_X3_joinOf ml_X9_93 hw hS rfl hl.1 ⟨Nat.le_of_ble_eq_true rfl, Nat.le_of_ble_eq_true rfl⟩ (Nat.le_of_ble_eq_true rfl) ⟨Nat.le_of_ble_eq_true rfl, Nat.le_of_ble_eq_true rfl⟩ dX9_kinds_36) hS (fun r_9 L1 M1 H locs hp_8 hw hS => ?_)
        obtain ⟨rfl, e1, e2⟩ := hp_8
        rw [e1, e2] at hw; clear e1 e2
        exact m_iret X hr hlk hw hS (Nat.le_of_ble_eq_true rfl) (Nat.le_of_ble_eq_true rfl) ⟨by clear hb hx hl hS hw hnm hlk hr X; first | rfl | (simp_all [bI, k_kinds]; done) | (simp_all [bI, k_kinds]; rfl), rfl, rfl⟩ dX9_kinds_39
      · skip
        refine lv_iload_n hx hb dX9_kinds_20 rfl (lv_at hl 1 rfl) ?_
        refine lv_iload_n hx hb dX9_kinds_21 rfl (lv_at hl 2 rfl) ?_
        refine m_calli (m_runS (As := [.int a, .int b]) (rest := []) X (k_X3_goesTo Γ l L (M) a b ) s_X3_goesTo ml_X9_89 hw hS rfl hl.1 ⟨Nat.le_of_ble_eq_true rfl, Nat.le_of_ble_eq_true rfl⟩ (Nat.le_of_ble_eq_true rfl) ⟨Nat.le_of_ble_eq_true rfl, Nat.le_of_ble_eq_true rfl⟩ dX9_kinds_22) hS (fun r_11 L1 M1 H locs hp_10 hw hS => ?_)
        obtain ⟨rfl, e1, e2⟩ := hp_10
        rw [e1, e2] at hw; clear e1 e2
        refine lv_if_eq (tgt := 32) hx hb dX9_kinds_25 (by decide) (fun c_12 => ?_) (fun c_12 => ?_)
        · skip
          have c_12 := bI_f c_12
          refine lv_iconst (v := 0) hx hb dX9_kinds_32 (by decide) ?_
          exact m_iret X hr hlk hw hS (Nat.le_of_ble_eq_true rfl) (Nat.le_of_ble_eq_true rfl) ⟨by clear hb hx hl hS hw hnm hlk hr X; first | rfl | (simp_all [bI, k_kinds]; done) | (simp_all [bI, k_kinds]; rfl), rfl, rfl⟩ dX9_kinds_33
        · skip
          have c_12 := bI_t c_12
          refine lv_iconst (v := 1) hx hb dX9_kinds_28 (by decide) ?_
          refine lv_goto (tgt := 33) hx hb dX9_kinds_29 (by decide) ?_
          exact m_iret X hr hlk hw hS (Nat.le_of_ble_eq_true rfl) (Nat.le_of_ble_eq_true rfl) ⟨by clear hb hx hl hS hw hnm hlk hr X; first | rfl | (simp_all [bI, k_kinds]; done) | (simp_all [bI, k_kinds]; rfl), rfl, rfl⟩ dX9_kinds_33
    · skip
      have c_6 := bI_f c_6
      refine lv_iconst (v := (-1)) hx hb dX9_kinds_14 (by decide) ?_
      exact m_iret X hr hlk hw hS (Nat.le_of_ble_eq_true rfl) (Nat.le_of_ble_eq_true rfl) ⟨by clear hb hx hl hS hw hnm hlk hr X; first | rfl | (simp_all [bI, k_kinds]; done) | (simp_all [bI, k_kinds]; rfl), rfl, rfl⟩ dX9_kinds_15
