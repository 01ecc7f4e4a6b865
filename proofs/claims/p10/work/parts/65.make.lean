/-! a FRAME is told: it is there, all TOP, of that depth -/
def frC (x : CS) (cm k : Nat) (v : Int32) (g : Nat → Int32) : CS := (up3 (up3 x.1 (cm + 2) (2 * k + 8) (upd (x.1 (cm + 2) (2 * k + 8)) 1 v)) (cm + 2) 0 (upd (x.1 (cm + 2) 0) 11 0), up3 x.2.1 (cm + 2) (2 * k + 9) g, x.2.2.1, cN x, fun m i => if m = cm ∧ i = k then true else cF x m i, cQ x)
theorem frC_old {x : CS} {cm k : Nat} {v : Int32} {g : Nat → Int32} (hF : cF x cm k = true) : frC x cm k v g = tS (tS (tVs x (cm + 2) (2 * k + 8 + 1) g) (cm + 2) (2 * k + 8) 1 v) (cm + 2) 0 11 0 := by
  unfold frC tS tVs
  have e1 : (fun m i => if m = cm ∧ i = k then true else cF x m i) = cF x := by
    funext m i
    by_cases z : m = cm ∧ i = k
    · rw [if_pos z, z.1, z.2, hF]
    · rw [if_neg z]
  have e2 : up3 x.1 (cm + 2) (2 * k + 8) (upd (x.1 (cm + 2) (2 * k + 8)) 1 v) (cm + 2) 0 = x.1 (cm + 2) 0 := up3_ne (by omega)
  show (_, _, _, _, (fun m i => if m = cm ∧ i = k then true else cF x m i), _) = (up3 (up3 x.1 (cm + 2) (2 * k + 8) (upd (x.1 (cm + 2) (2 * k + 8)) 1 v)) (cm + 2) 0 (upd (up3 x.1 (cm + 2) (2 * k + 8) (upd (x.1 (cm + 2) (2 * k + 8)) 1 v) (cm + 2) 0) 11 0), _)
  rw [e1, e2]
theorem frC_new {x : CS} {cm k : Nat} {v : Int32} {g : Nat → Int32} (hF : ¬ cF x cm k = true) : frC x cm k v g = tS (tS (tVs (addF x cm k) (cm + 2) (2 * k + 8 + 1) g) (cm + 2) (2 * k + 8) 1 v) (cm + 2) 0 11 0 := by
  unfold frC tS tVs addF
  have e2 : up3 (up3 x.1 (cm + 2) (2 * k + 8) (upd (x.1 (cm + 2) (2 * k + 8)) 1 (-1))) (cm + 2) (2 * k + 8) (upd (up3 x.1 (cm + 2) (2 * k + 8) (upd (x.1 (cm + 2) (2 * k + 8)) 1 (-1)) (cm + 2) (2 * k + 8)) 1 v) = up3 x.1 (cm + 2) (2 * k + 8) (upd (x.1 (cm + 2) (2 * k + 8)) 1 v) := by
    rw [up3_up3, up3_self, upd_upd]
  have e3 : up3 x.1 (cm + 2) (2 * k + 8) (upd (x.1 (cm + 2) (2 * k + 8)) 1 v) (cm + 2) 0 = x.1 (cm + 2) 0 := up3_ne (by omega)
  show (_, up3 x.2.1 (cm + 2) (2 * k + 9) g, _) = (up3 (up3 (up3 x.1 (cm + 2) (2 * k + 8) (upd (x.1 (cm + 2) (2 * k + 8)) 1 (-1))) (cm + 2) (2 * k + 8) (upd (up3 x.1 (cm + 2) (2 * k + 8) (upd (x.1 (cm + 2) (2 * k + 8)) 1 (-1)) (cm + 2) (2 * k + 8)) 1 v)) (cm + 2) 0 (upd (up3 (up3 x.1 (cm + 2) (2 * k + 8) (upd (x.1 (cm + 2) (2 * k + 8)) 1 (-1))) (cm + 2) (2 * k + 8) (upd (up3 x.1 (cm + 2) (2 * k + 8) (upd (x.1 (cm + 2) (2 * k + 8)) 1 (-1)) (cm + 2) (2 * k + 8)) 1 v) (cm + 2) 0) 11 0), up3 (up3 x.2.1 (cm + 2) (2 * k + 9) (fun _ => 0)) (cm + 2) (2 * k + 8 + 1) g, _)
  rw [e2, e3]
  have e4 : up3 (up3 x.2.1 (cm + 2) (2 * k + 9) (fun _ => 0)) (cm + 2) (2 * k + 8 + 1) g = up3 x.2.1 (cm + 2) (2 * k + 9) g := up3_up3 _ _ _ _ _
  rw [e4]
theorem frC_inv {x : CS} {cm k : Nat} {v : Int32} {g : Nat → Int32} (hI : CInv x) (hm : cm < cN x) (hk : k < 40) (hv : dOK v) : CInv (frC x cm k v g) := by
  by_cases hF : cF x cm k = true
  · rw [frC_old hF]
    exact CInv.right (CInv.dep (CInv.putVs hI (by omega)) (pOF hm hk hF) hv)
  · rw [frC_new hF]
    exact CInv.right (CInv.dep (CInv.putVs (addF_inv hI) (by omega)) (pOF (c := addF x cm k) hm hk (by show (if cm = cm ∧ k = k then true else _) = true; rw [if_pos ⟨rfl, rfl⟩])) hv)
theorem v_X7_add : mVm yX7_add cX7_add 2 (some .int) 1 := ⟨cd_X7_add, im_X7_add, se_X7_add, ini_X7, by decide, by decide, by decide +kernel⟩
set_option maxHeartbeats 4000000 in
set_option maxRecDepth 100000 in
theorem k_X7_add (Γ : mG) (l : Launch) (L : mI → Nat) (x : CS) (v : Int32) (hI : CInv x) : mMet Γ l yX7_add cX7_add 2 (some .int) { frames := 2, cells := 8, slots := 156, locals := 34 } [.ref (L (nm 0 1)), .int v] L (cM Γ L x) (mQi Γ (fun r L1 M1 => (cN x = 8 ∧ r = -3 ∧ L1 = L ∧ M1 = cM Γ L x) ∨ (cN x < 8 ∧ r = nI (cN x) ∧ (∀ a b, a ≠ cN x + 2 → L1 (nm a b) = L (nm a b)) ∧ M1 = cM Γ L1 (addC x v)))) := by
  refine m_start (by decide) (Nat.le_of_ble_eq_true rfl) ?_
  intro p e s m args below meth c A ls X hr hlk hnm hw hS hl
  have hx := X.1.1
  have hb := X.1.2.1
  have hl : lv_has ls 2 [(0, .ref (L (nm 0 1))), (1, .int v)] := hl
  have hI8 := hI.1
  refine lv_aload_n hx hb dX7_add_0 rfl (lv_at hl 0 rfl) ?_
  refine s_get (a := 0) (b := 1) (ci := 5) X hw rfl rfl gX7 1 (by decide) fl_X7_17 rfl rfl dX7_add_1 ?_
  refine lv_bipush (v := 8) hx hb dX7_add_4 (by decide) ?_
  refine lv_icmp_lt (tgt := 12) hx hb dX7_add_6 (by decide) (fun c_1 => ?_) (fun c_1 => ?_)
  · skip
    have c_1n : (cN x) < 8 := nltT (a := cN x) (b := 8) rfl rfl (by omega) (by omega) c_1
    have c_1m : ¬ 8 ≤ (cN x) := by omega
    refine lv_aload_n hx hb dX7_add_12 rfl (lv_at hl 0 rfl) ?_
    refine s_get (a := 0) (b := 1) (ci := 5) X hw rfl rfl gX7 0 (by decide) fl_X7_13 rfl rfl dX7_add_13 ?_
    refine lv_aload_n hx hb dX7_add_16 rfl (lv_at hl 0 rfl) ?_
    refine s_get (a := 0) (b := 1) (ci := 5) X hw rfl rfl gX7 1 (by decide) fl_X7_17 rfl rfl dX7_add_17 ?_
    have hM0 : 0 < (cM Γ L x).2.length := Nat.zero_lt_one
    refine c_new (ci := 0) (fs := [.int 0, .int 0, .null, .null, .int 0, .null, .null, .null, .null, .int 0, .null, .int 0]) X hw hS hM0 (cN x + 2) 0 rfl gX0 tyX0 tyX0_ok cl_X7_11 ins_X0 ini_X0 dvX0 (Nat.le_of_ble_eq_true rfl) (Nat.le_of_ble_eq_true rfl) dX7_add_20 (fun q L1 M1 H hq hL u hw hS => ?_)
    refine lv_dup hx hb dX7_add_23 rfl ?_
    refine lv_aload_n hx hb dX7_add_24 rfl (lv_at hl 0 rfl) ?_
    have eL : ∀ a b, a ≠ cN x + 2 → L1 (nm a b) = L (nm a b) := fun a b h => hL _ (nm_ne1 h)
    have eM : ∀ a b, a ≠ cN x + 2 → mget M1 (nm a b) = mget (cM Γ L x) (nm a b) := fun a b h => u.2.1 _ (nm_ne1 h)
    refine c_get (i := nm 0 1) X hw (eL 0 1 (by omega)) ((eM 0 1 (by omega)).trans rfl) rfl gX7 1 (by decide) fl_X7_17 rfl rfl dX7_add_25 ?_
    refine lv_iload_n hx hb dX7_add_28 rfl (lv_at hl 1 rfl) ?_
    refine m_callv (m_runI (As := [.int (nI (cN x)), .int v]) (rest := [.ref q, .int (nI (cN x)), .ref (L (nm 0 2))]) X (k_X0_init Γ l L1 M1 (cN x + 2) (nI (cN x)) v q hq u.1 (u.2.2 hM0)) i_X0_init ml_X7_21 hw hS rfl hl.1 ⟨Nat.le_of_ble_eq_true rfl, Nat.le_of_ble_eq_true rfl⟩ (Nat.le_of_ble_eq_true rfl) ⟨Nat.le_of_ble_eq_true rfl, Nat.le_of_ble_eq_true rfl⟩ dX7_add_29) hS (fun L2 M2 H locs hp hw hS => ?_)
    obtain ⟨k2, g0, g1, g2, g3, g4, g5, g6, g7⟩ := hp
    have nin : ∀ a b, a ≠ cN x + 2 → inN [(cN x + 2, 1), (cN x + 2, 2), (cN x + 2, 3), (cN x + 2, 4), (cN x + 2, 5), (cN x + 2, 6), (cN x + 2, 7)] [] (nm a b) = false := fun a b h => inN_row (by simp; exact fun z => h z.symm)
    have nin0 : ∀ a b, a ≠ cN x + 2 → inN [(cN x + 2, 0)] [] (nm a b) = false := fun a b h => inN_row (by simp; exact fun z => h z.symm)
    have eL2 : ∀ a b, a ≠ cN x + 2 → L2 (nm a b) = L (nm a b) := fun a b h => (k2.1 _ (nin a b h)).trans (eL a b h)
    have eL20 : L2 (nm (cN x + 2) 0) = q := (k2.1 _ (by simp [inN])).trans hq
    have eM2 : ∀ a b, a ≠ cN x + 2 → mget M2 (nm a b) = mget (cM Γ L x) (nm a b) := fun a b h => (k2.2.1 _ (nin a b h) (nin0 a b h)).trans (eM a b h)
    refine c_aast (i := nm 0 2) (j := nm (cN x + 2) 0) (ci := 0) (t := 3) X hw hS (eL2 0 2 (by omega)) eL20 rfl ((eM2 0 2 (by omega)).trans rfl) g0 rfl (vp_in_nI (show cN x < 8 by omega) (by decide)) dX7_add_32 (fun M3 H locs u3 hw hS => ?_)
    rw [nI_clamp (by omega)] at u3
    have e01 : mget M3 (nm 0 1) = some (.inr (5, [.ref (L (nm 0 2)), .int (nI (cN x))])) := (u3.2.1 _ (nm_ne2 (by omega))).trans ((eM2 0 1 (by omega)).trans rfl)
    refine lv_aload_n hx hb dX7_add_33 rfl (lv_at hl 0 rfl) ?_
    refine lv_dup hx hb dX7_add_34 rfl ?_
    refine c_get (i := nm 0 1) X hw (eL2 0 1 (by omega)) e01 rfl gX7 1 (by decide) fl_X7_17 rfl rfl dX7_add_35 ?_
    refine lv_iconst (v := 1) hx hb dX7_add_38 (by decide) ?_
    refine lv_iadd hx hb dX7_add_39 ?_
    refine lv_topi (fun z ez => ?_)
    obtain rfl : z = nI (cN x + 1) := ez.trans (nadd (a := cN x) (b := 1) rfl rfl)
    refine c_put (i := nm 0 1) (ty := tyX7 1) (fs1 := [.ref (L (nm 0 2)), .int (nI (cN x + 1))]) X hw hS (eL2 0 1 (by omega)) e01 rfl gX7 tyX7 tyX7_ok nmX7 1 (by decide) fl_X7_17 rfl rfl (tyX7_ok 1 (by decide)) rfl rfl (show 1 < 2 by decide) rfl dX7_add_40 (fun M4 H locs u4 hw hS => ?_)
    refine lv_aload_n hx hb dX7_add_43 rfl (lv_at hl 0 rfl) ?_
    refine c_get (i := nm 0 1) X hw (eL2 0 1 (by omega)) u4.1 rfl gX7 1 (by decide) fl_X7_17 rfl rfl dX7_add_44 ?_
    refine lv_iconst (v := 1) hx hb dX7_add_47 (by decide) ?_
    refine lv_isub hx hb dX7_add_48 ?_
    have gg : ∀ b, mget M4 (nm (cN x + 2) b) = mget M2 (nm (cN x + 2) b) := fun b => (u4.2.1 _ (nm_ne1 (by omega))).trans (u3.2.1 _ (nm_ne1 (by omega)))
    have hw := mW.sub hw (addC_sub (v := v) hI eL2 (fun a b h1 h2 => (u4.2.1 _ (fun z => h2 (by cases z; exact ⟨rfl, Or.inl rfl⟩))).trans ((u3.2.1 _ (fun z => h2 (by cases z; exact ⟨rfl, Or.inr rfl⟩))).trans (eM2 a b h1))) (by rw [eL2 0 2 (by omega)]; exact u4.1) (by rw [eL20]; exact (u4.2.1 _ (nm_ne2 (by omega))).trans u3.1) ((gg 0).trans g0) ((gg 1).trans g1) ((gg 2).trans g2) ((gg 3).trans g3) ((gg 4).trans g4) ((gg 5).trans g5) ((gg 6).trans g6) ((gg 7).trans g7))
    exact m_iret X hr hlk hw hS (Nat.le_of_ble_eq_true rfl) (Nat.le_of_ble_eq_true rfl) (Or.inr ⟨by omega, nsub (a := cN x + 1) (b := 1) (by omega) rfl rfl, eL2, rfl⟩) dX7_add_49
  · skip
    have c_1n : ¬ (cN x) < 8 := nltF (a := cN x) (b := 8) rfl rfl (by omega) (by omega) c_1
    have c_1m : 8 ≤ (cN x) := by omega
    refine lv_bipush (v := (-3)) hx hb dX7_add_9 (by decide) ?_
    exact m_iret X hr hlk hw hS (Nat.le_of_ble_eq_true rfl) (Nat.le_of_ble_eq_true rfl) (Or.inl ⟨by have := hI.1; omega, rfl, rfl, rfl⟩) dX7_add_11
theorem v_X0_putFrame : mVm yX0_putFrame cX0_putFrame 3 none 2 := ⟨cd_X0_putFrame, im_X0_putFrame, se_X0_putFrame, ini_X0, by decide, by decide, by decide +kernel⟩
set_option maxHeartbeats 4000000 in
set_option maxRecDepth 100000 in
theorem k_X0_putFrame (Γ : mG) (l : Launch) (L : mI → Nat) (x : CS) (cm kn : Nat) (k : Int32) (v : Int32) (hm : cm < cN x) (hkn : kn < 40) (ek : k = nI kn) : mMet Γ l yX0_putFrame cX0_putFrame 3 none { frames := 2, cells := 2, slots := 18, locals := 32 } [.ref (L (nm (cm + 2) 0)), .int k, .int v] L (cM Γ L x) (mQv Γ (fun L1 M1 => ∃ g : Nat → Int32, (∀ i, i < 16 → g i = 0) ∧ (∀ a b, ¬ (a = cm + 2 ∧ (b = 2 * kn + 8 ∨ b = 2 * kn + 9)) → L1 (nm a b) = L (nm a b)) ∧ M1 = cM Γ L1 (frC x cm kn v g))) := by
  refine m_start (by decide) (Nat.le_of_ble_eq_true rfl) ?_
  intro p e s m args below meth c A ls X hr hlk hnm hw hS hl
  have hx := X.1.1
  have hb := X.1.2.1
  have hl : lv_has ls 3 [(0, .ref (L (nm (cm + 2) 0))), (1, .int k), (2, .int v)] := hl
  have L0e : ∃ z : mI → Nat, z = L := ⟨_, rfl⟩
  have K33 : ∀ (L2 : mI → Nat) (y : CS) (cl_ sl_ : Nat) (H : Heap) (locs : List Loc) (ls : Array Slot), cl_ ≤ 2 → sl_ ≤ 18 → (∀ a b, ¬ (a = cm + 2 ∧ (b = 2 * kn + 8 ∨ b = 2 * kn + 9)) → L2 (nm a b) = L (nm a b)) → cm < cN y → cF y cm kn = true → (∀ g : Nat → Int32, tS (tS (tVs y (cm + 2) (2 * kn + 8 + 1) g) (cm + 2) (2 * kn + 8) 1 v) (cm + 2) 0 11 0 = frC x cm kn v g) → mW Γ.1 vwCl A L2 (cM Γ L2 y) H → va_S A s.heap H locs → lv_has ls 3 [(0, .ref (L2 (nm (cm + 2) 0))), (1, .int k), (2, .int v)] → W p l e { frames := 2, cells := 2, slots := 18, locals := 32 } s m args below meth c H locs cl_ sl_ (MQ below (mQv Γ (fun L1 M1 => ∃ g : Nat → Int32, (∀ i, i < 16 → g i = 0) ∧ (∀ a b, ¬ (a = cm + 2 ∧ (b = 2 * kn + 8 ∨ b = 2 * kn + 9)) → L1 (nm a b) = L (nm a b)) ∧ M1 = cM Γ L1 (frC x cm kn v g)) A) args s 2 18 A) (F0 m 33 ls []) := by
    intro L2 y cl_ sl_ H locs ls hcl hsl hL2 hmy hFy hfr hw hS hl
    refine lv_aload_n hx hb dX0_putFrame_33 rfl (lv_at hl 0 rfl) ?_
    refine s_get (a := cm + 2) (b := 0) (ci := 0) X hw (c_cell hmy 0 _ _ _) rfl gX0 10 (by decide) fl_X0_33 rfl rfl dX0_putFrame_34 ?_
    refine lv_iload_n hx hb dX0_putFrame_37 rfl (lv_at hl 1 rfl) ?_
    refine s_aaldS (a := cm + 2) (b := 7) (n := 40) (k := kn) (t := 4) (q := L2 (nm (cm + 2) (2 * kn + 8))) X hw rfl (c_cell hmy 7 _ _ _) ek (by omega) (by decide) (if_pos hFy) dX0_putFrame_38 ?_
    refine lv_iload_n hx hb dX0_putFrame_39 rfl (lv_at hl 2 rfl) ?_
    refine m_callv (m_runV (i := nm (cm + 2) (2 * kn + 8)) (ci := 4) (As := [.int v]) (rest := []) X (k_X6_clear Γ l L2 y (cm + 2) (2 * kn + 8) v (pOF hmy hkn hFy)) v_X6_clear ml_X0_55 hw hS (p_obj Γ L2 (c := y) (pOF hmy hkn hFy)) rfl rfl rfl hl.1 ⟨Nat.le_of_ble_eq_true rfl, Nat.le_of_ble_eq_true rfl⟩ (Nat.le_of_ble_eq_true rfl) ⟨by show _ + 0 ≤ _; omega, by show _ + 0 ≤ _; omega⟩ dX0_putFrame_40) hS (fun L1 M1 H locs hp_1 hw hS => ?_)
    obtain ⟨g_1, hg_1, e1, e2⟩ := hp_1
    rw [e1, e2] at hw; clear e1 e2
    refine lv_aload_n hx hb dX0_putFrame_43 rfl (lv_at hl 0 rfl) ?_
    refine lv_iconst (v := 0) hx hb dX0_putFrame_44 (by decide) ?_
    refine s_put (a := cm + 2) (b := 0) (v := 0) (ci := 0) (ty := tyX0 11) X hw hS 11 (c_cell hmy 0 _ _ _) (c_cell hmy 0 _ _ _) rfl gX0 tyX0 tyX0_ok nmX0 (by decide) fl_X0_47 rfl rfl (tyX0_ok 11 (by decide)) rfl rfl (show 11 < 12 by decide) dX0_putFrame_45 (fun H locs hw hS => ?_)
    rw [hfr] at hw
    exact m_vret X hr hlk hw hS (by show _ + 0 ≤ 2; omega) (by show _ + 0 ≤ 18; omega) ⟨g_1, hg_1, hL2, rfl⟩ dX0_putFrame_48
  refine lv_iload_n hx hb dX0_putFrame_0 rfl (lv_at hl 1 rfl) ?_
  refine lv_if_lt (tgt := 10) hx hb dX0_putFrame_1 (by decide) (fun c_2 => ?_) (fun c_2 => ?_)
  · skip
    have c_2n : kn < 0 := nltT (a := kn) (b := 0) ek rfl (by omega) (by omega) c_2
    have c_2m : ¬ 0 ≤ kn := by omega
    exact absurd (show kn < 40 from hkn) (by omega)
  · skip
    have c_2n : ¬ kn < 0 := nltF (a := kn) (b := 0) ek rfl (by omega) (by omega) c_2
    have c_2m : 0 ≤ kn := by omega
    refine lv_iload_n hx hb dX0_putFrame_4 rfl (lv_at hl 1 rfl) ?_
    refine lv_bipush (v := 40) hx hb dX0_putFrame_5 (by decide) ?_
    refine lv_icmp_lt (tgt := 11) hx hb dX0_putFrame_7 (by decide) (fun c_3 => ?_) (fun c_3 => ?_)
    · skip
      have c_3n : kn < 40 := nltT (a := kn) (b := 40) ek rfl (by omega) (by omega) c_3
      have c_3m : ¬ 40 ≤ kn := by omega
      refine lv_aload_n hx hb dX0_putFrame_11 rfl (lv_at hl 0 rfl) ?_
      refine s_get (a := cm + 2) (b := 0) (ci := 0) X hw (c_cell hm 0 _ _ _) rfl gX0 10 (by decide) fl_X0_33 rfl rfl dX0_putFrame_12 ?_
      refine lv_iload_n hx hb dX0_putFrame_15 rfl (lv_at hl 1 rfl) ?_
      by_cases hF : cF x cm kn = true
      · skip
        refine s_aaldS (a := cm + 2) (b := 7) (n := 40) (k := kn) (t := 4) (q := L (nm (cm + 2) (2 * kn + 8))) X hw rfl (c_cell hm 7 _ _ _) ek (by omega) (by decide) (if_pos hF) dX0_putFrame_16 ?_
        refine lv_ifnonnull (tgt := 33) hx hb dX0_putFrame_17 (by decide) ?_
        exact K33 L x _ _ _ _ ls (by decide) (by decide) (fun _ _ _ => rfl) hm hF (fun g => (frC_old hF).symm) hw hS (lv_sub hl [0, 1, 2] rfl)
      · skip
        refine s_aaldN (a := cm + 2) (b := 7) (n := 40) (k := kn) (t := 4) X hw rfl (c_cell hm 7 _ _ _) ek (by omega) (by decide) (if_neg hF) dX0_putFrame_16 ?_
        refine lv_ifnonnullN hx hb dX0_putFrame_17 ?_
        refine lv_aload_n hx hb dX0_putFrame_20 rfl (lv_at hl 0 rfl) ?_
        refine s_get (a := cm + 2) (b := 0) (ci := 0) X hw (c_cell hm 0 _ _ _) rfl gX0 10 (by decide) fl_X0_33 rfl rfl dX0_putFrame_21 ?_
        refine lv_iload_n hx hb dX0_putFrame_24 rfl (lv_at hl 1 rfl) ?_
        have hM0 : 0 < (cM Γ L x).2.length := Nat.zero_lt_one
        refine c_new (ci := 4) (fs := [.null, .int 0]) X hw hS hM0 (cm + 2) (2 * kn + 8) rfl gX6 tyX6 tyX6_ok cl_X0_31 ins_X6 ini_X6 dvX6 (Nat.le_of_ble_eq_true rfl) (Nat.le_of_ble_eq_true rfl) dX0_putFrame_25 (fun q L1 M1 H hq hL u hw hS => ?_)
        refine lv_dup hx hb dX0_putFrame_28 rfl ?_
        have n8 : ∀ a b, ¬ (a = cm + 2 ∧ b = 2 * kn + 8) → nm a b ≠ nm (cm + 2) (2 * kn + 8) := fun a b h z => h (by cases z; exact ⟨rfl, rfl⟩)
        have n7 : ∀ a b, ¬ (a = cm + 2 ∧ b = 7) → nm a b ≠ nm (cm + 2) 7 := fun a b h z => h (by cases z; exact ⟨rfl, rfl⟩)
        refine m_callv (m_runIN (host := "KindJudge") (As := []) (rest := [.ref q, .int k, .ref (L (nm (cm + 2) 7))]) X (k_X6_init Γ l L1 M1 (cm + 2) (2 * kn + 8) q hq u.1 (u.2.2 hM0)) i_X6_init nest_X0_54 hw hS rfl hl.1 ⟨Nat.le_of_ble_eq_true rfl, Nat.le_of_ble_eq_true rfl⟩ (Nat.le_of_ble_eq_true rfl) ⟨Nat.le_of_ble_eq_true rfl, Nat.le_of_ble_eq_true rfl⟩ dX0_putFrame_29) hS (fun L3 M3 H locs hp hw hS => ?_)
        obtain ⟨k2, g8, g9⟩ := hp
        have eL3 : ∀ a b, ¬ (a = cm + 2 ∧ (b = 2 * kn + 8 ∨ b = 2 * kn + 9)) → L3 (nm a b) = L (nm a b) := fun a b h => (k2.1 _ (inN_one (by omega))).trans (hL _ (n8 a b (by omega)))
        have eL38 : L3 (nm (cm + 2) (2 * kn + 8)) = q := (k2.1 _ (inN_one (by omega))).trans hq
        have eM3 : ∀ a b, ¬ (a = cm + 2 ∧ (b = 2 * kn + 8 ∨ b = 2 * kn + 9)) → mget M3 (nm a b) = mget (cM Γ L x) (nm a b) := fun a b h => (k2.2.1 _ (inN_one (by omega)) (inN_one (by omega))).trans (u.2.1 _ (n8 a b (by omega)))
        refine c_aast (i := nm (cm + 2) 7) (j := nm (cm + 2) (2 * kn + 8)) (ci := 4) (t := 4) X hw hS (eL3 _ 7 (by omega)) eL38 rfl ((eM3 (cm + 2) 7 (by omega)).trans (c_cell hm 7 _ _ _)) g8 rfl (by rw [ek]; exact vp_in_nI (show kn < 40 by omega) (by decide)) dX0_putFrame_32 (fun M4 H locs u4 hw hS => ?_)
        have ck : k.toNatClampNeg = kn := by rw [ek]; exact nI_clamp (by omega)
        rw [ck] at u4
        have hw := mW.sub hw (addF_sub hm hkn eL3 (fun a b h => (u4.2.1 _ (n7 a b (by omega))).trans (eM3 a b (by omega))) (by rw [eL38]; exact u4.1) ((u4.2.1 _ (n7 _ _ (by omega))).trans g8) ((u4.2.1 _ (n7 _ _ (by omega))).trans g9))
        exact K33 L3 (addF x cm kn) _ _ _ _ ls (by decide) (by decide) eL3 hm (by show (if cm = cm ∧ kn = kn then true else _) = true; rw [if_pos ⟨rfl, rfl⟩]) (fun g => (frC_new hF).symm) hw hS (by have e0 := eL3 (cm + 2) 0 (by omega); rw [e0]; exact lv_sub hl [0, 1, 2] rfl)
    · skip
      have c_3n : ¬ kn < 40 := nltF (a := kn) (b := 40) ek rfl (by omega) (by omega) c_3
      have c_3m : 40 ≤ kn := by omega
      exact absurd (show kn < 40 from hkn) (by omega)
