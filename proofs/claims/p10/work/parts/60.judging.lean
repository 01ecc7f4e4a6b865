/-! THE CLASS'S JUDGING, by shape -/
theorem has_nat2 {v k : Int32} (hd : dOK v) (h : p_has v k = true) : ∃ n, n < 16 ∧ k = nI n := by
  have h0 : ¬ v < 0 := by
    unfold p_has at h
    simp only [Bool.and_eq_true, Bool.not_eq_true', decide_eq_false_iff_not] at h
    exact h.1
  obtain ⟨d, hd8, rfl⟩ := dnat hd h0
  obtain ⟨n, hn, e⟩ := has_nat hd8 h
  exact ⟨n, by omega, e⟩
theorem sP_rdS {x : CS} {a b a' b' k : Nat} {q : PL} (h : ¬ (a' = a ∧ b' = b ∧ k = 1)) : (sP x a b q).1 a' b' k = x.1 a' b' k := by
  show (tS (tVs x a (b + 1) q.1) a b 1 (nI q.2)).1 a' b' k = _
  exact tS_rd h
theorem v_X2_kindAhead : mVm yX2_kindAhead cX2_kindAhead 3 (some .int) 2 := ⟨cd_X2_kindAhead, im_X2_kindAhead, se_X2_kindAhead, ini_X2, by decide, by decide, by decide +kernel⟩
set_option maxHeartbeats 4000000 in
set_option maxRecDepth 100000 in
theorem k_X2_kindAhead (Γ : mG) (l : Launch) (L : mI → Nat) (x : CS) (k : Int32) (w : Int32) (hI : CInv x) : mMet Γ l yX2_kindAhead cX2_kindAhead 3 (some .int) { frames := 1, cells := 0, slots := 0, locals := 21 } [.ref (L (nm 0 3)), .int k, .int w] L (cM Γ L x) (mQi Γ (fun r L1 M1 => L1 = L ∧ M1 = cM Γ L x)) := by
  refine m_start (by decide) (Nat.le_of_ble_eq_true rfl) ?_
  intro p e s m args below meth c A ls X hr hlk hnm hw hS hl
  have hx := X.1.1
  have hb := X.1.2.1
  have hl : lv_has ls 3 [(0, .ref (L (nm 0 3))), (1, .int k), (2, .int w)] := hl
  refine lv_iload_n hx hb dX2_kindAhead_0 rfl (lv_at hl 1 rfl) ?_
  refine lv_if_lt (tgt := 31) hx hb dX2_kindAhead_1 (by decide) (fun c_1 => ?_) (fun c_1 => ?_)
  · skip
    refine lv_ldc (v := (-99999999)) hx hb X.1.2.2.2.1 (X.1.2.2.2.2 _ ki_X2_39) dX2_kindAhead_31 ?_
    exact m_iret X hr hlk hw hS (Nat.le_of_ble_eq_true rfl) (Nat.le_of_ble_eq_true rfl) ⟨rfl, rfl⟩ dX2_kindAhead_33
  · skip
    refine lv_iload_n hx hb dX2_kindAhead_4 rfl (lv_at hl 1 rfl) ?_
    refine lv_aload_n hx hb dX2_kindAhead_5 rfl (lv_at hl 0 rfl) ?_
    refine s_get (a := 0) (b := 3) (ci := 2) X hw rfl rfl gX2 3 (by decide) fl_X2_31 rfl rfl dX2_kindAhead_6 ?_
    refine lv_icmp_ge (tgt := 31) hx hb dX2_kindAhead_9 (by decide) (fun c_2 => ?_) (fun c_2 => ?_)
    · skip
      refine lv_ldc (v := (-99999999)) hx hb X.1.2.2.2.1 (X.1.2.2.2.2 _ ki_X2_39) dX2_kindAhead_31 ?_
      exact m_iret X hr hlk hw hS (Nat.le_of_ble_eq_true rfl) (Nat.le_of_ble_eq_true rfl) ⟨rfl, rfl⟩ dX2_kindAhead_33
    · skip
      refine lv_iload_n hx hb dX2_kindAhead_12 rfl (lv_at hl 1 rfl) ?_
      refine lv_bipush (v := 40) hx hb dX2_kindAhead_13 (by decide) ?_
      refine lv_icmp_ge (tgt := 31) hx hb dX2_kindAhead_15 (by decide) (fun c_3 => ?_) (fun c_3 => ?_)
      · skip
        refine lv_ldc (v := (-99999999)) hx hb X.1.2.2.2.1 (X.1.2.2.2.2 _ ki_X2_39) dX2_kindAhead_31 ?_
        exact m_iret X hr hlk hw hS (Nat.le_of_ble_eq_true rfl) (Nat.le_of_ble_eq_true rfl) ⟨rfl, rfl⟩ dX2_kindAhead_33
      · skip
        obtain ⟨kn, hkn, ek⟩ := nat_ltN (n := 40) (by decide) (by assumption) (Int32.not_le.mp c_3)
        refine lv_aload_n hx hb dX2_kindAhead_18 rfl (lv_at hl 0 rfl) ?_
        refine s_get (a := 0) (b := 3) (ci := 2) X hw rfl rfl gX2 0 (by decide) fl_X2_13 rfl rfl dX2_kindAhead_19 ?_
        refine lv_iload_n hx hb dX2_kindAhead_22 rfl (lv_at hl 1 rfl) ?_
        refine s_aaldS (a := 0) (b := 4) (n := 40) (k := kn) (t := 4) (q := L (nm 1 (2 * kn))) X hw rfl rfl ek (by omega) (by decide) (if_pos (show kn < 40 by omega)) dX2_kindAhead_23 ?_
        refine lv_iload_n hx hb dX2_kindAhead_24 rfl (lv_at hl 2 rfl) ?_
        refine m_calli (m_runV (i := nm 1 (2 * kn)) (ci := 4) (As := [.int w]) (rest := []) X (k_X6_has Γ l L x 1 (2 * kn) w (pO1 (show kn < 40 by omega))) v_X6_has ml_X2_35 hw hS (p_obj Γ L (c := x) (pO1 (show kn < 40 by omega))) rfl rfl rfl hl.1 ⟨Nat.le_of_ble_eq_true rfl, Nat.le_of_ble_eq_true rfl⟩ (Nat.le_of_ble_eq_true rfl) ⟨Nat.le_of_ble_eq_true rfl, Nat.le_of_ble_eq_true rfl⟩ dX2_kindAhead_25) hS (fun r_4 L1 M1 H locs hp_4 hw hS => ?_)
        obtain ⟨e0, e1, e2⟩ := hp_4
        subst e0; rw [e1, e2] at hw; clear e1 e2
        refine lv_if_ne (tgt := 34) hx hb dX2_kindAhead_28 (by decide) (fun c_5 => ?_) (fun c_5 => ?_)
        · skip
          have c_5 := bI_t c_5
          obtain ⟨wn, hwn, ew⟩ := has_nat2 (hI.2.2.1 1 (2 * kn) (pO1 hkn)) c_5
          refine lv_aload_n hx hb dX2_kindAhead_34 rfl (lv_at hl 0 rfl) ?_
          refine s_get (a := 0) (b := 3) (ci := 2) X hw rfl rfl gX2 0 (by decide) fl_X2_13 rfl rfl dX2_kindAhead_35 ?_
          refine lv_iload_n hx hb dX2_kindAhead_38 rfl (lv_at hl 1 rfl) ?_
          refine s_aaldS (a := 0) (b := 4) (n := 40) (k := kn) (t := 4) (q := L (nm 1 (2 * kn))) X hw rfl rfl ek (by omega) (by decide) (if_pos (show kn < 40 by omega)) dX2_kindAhead_39 ?_
          refine q_getk X hw (pO1 (show kn < 40 by omega)) fl_X2_40 rfl dX2_kindAhead_40 ?_
          refine lv_iload_n hx hb dX2_kindAhead_43 rfl (lv_at hl 2 rfl) ?_
          refine q_ald (n := wn) X hw (pO1 (show kn < 40 by omega)) ew (by omega) dX2_kindAhead_44 ?_
          exact m_iret X hr hlk hw hS (Nat.le_of_ble_eq_true rfl) (Nat.le_of_ble_eq_true rfl) ⟨rfl, rfl⟩ dX2_kindAhead_45
        · skip
          have c_5 := bI_f c_5
          refine lv_ldc (v := (-99999999)) hx hb X.1.2.2.2.1 (X.1.2.2.2.2 _ ki_X2_39) dX2_kindAhead_31 ?_
          exact m_iret X hr hlk hw hS (Nat.le_of_ble_eq_true rfl) (Nat.le_of_ble_eq_true rfl) ⟨rfl, rfl⟩ dX2_kindAhead_33
theorem v_X2_forget : mVm yX2_forget cX2_forget 3 none 1 := ⟨cd_X2_forget, im_X2_forget, se_X2_forget, ini_X2, by decide, by decide, by decide +kernel⟩
set_option maxHeartbeats 4000000 in
set_option maxRecDepth 100000 in
theorem k_X2_forget (Γ : mG) (l : Launch) (L : mI → Nat) (x : CS) (cm : Nat)  (hI : CInv x) (hm : cm < cN x) : mMet Γ l yX2_forget cX2_forget 3 none { frames := 0, cells := 0, slots := 0, locals := 0 } [.ref (L (nm 0 3)), .ref (L (nm (cm + 2) 0))] L (cM Γ L x) (mQv Γ (mKv Γ L x)) := by
  refine m_start (by decide) (Nat.le_of_ble_eq_true rfl) ?_
  intro p e s m args below meth c A ls X hr hlk hnm hw hS hl
  have hx := X.1.1
  have hb := X.1.2.1
  have hl : lv_has ls 3 [(0, .ref (L (nm 0 3))), (1, .ref (L (nm (cm + 2) 0)))] := hl
  have hk : kp x x := kp.rf
  have KL : ∀ (n : Nat) (t : Nat) (j : Int32) (y : CS) (H : Heap) (locs : List Loc) (ls : Array Slot), t + n = 40 → j = nI t → CInv y → kp x y → mW Γ.1 vwCl A L (cM Γ L (y)) H → va_S A s.heap H locs → lv_has ls 3 [(2, .int j), (0, .ref (L (nm 0 3)))] → W p l e { frames := 0, cells := 0, slots := 0, locals := 0 } s m args below meth c H locs 0 0 (MQ below (mQv Γ (mKv Γ L x) A) args s 0 0 A) (F0 m 10 ls []) := by
    intro n
    induction n with
    | zero =>
      intro t j y H locs ls f0 f1 f2 f3 hw hS hl
      have hI := f2
      have hk := f3
      refine lv_iload_n hx hb dX2_forget_10 rfl (lv_at hl 0 rfl) ?_
      refine lv_bipush (v := 40) hx hb dX2_forget_11 (by decide) ?_
      refine lv_icmp_ge (tgt := 32) hx hb dX2_forget_13 (by decide) (fun c_1 => ?_) (fun c_1 => ?_)
      · skip
        have c_1n : t ≥ 40 := ngeT (a := t) (b := 40) f1 rfl (by omega) (by omega) c_1
        have c_1m : ¬ t < 40 := by omega
        exact m_vret X hr hlk hw hS (Nat.le_of_ble_eq_true rfl) (Nat.le_of_ble_eq_true rfl) ⟨rfl, _, rfl, hI, hk⟩ dX2_forget_32
      · skip
        have c_1n : ¬ t ≥ 40 := ngeF (a := t) (b := 40) f1 rfl (by omega) (by omega) c_1
        have c_1m : t < 40 := by omega
        refine lv_aload_n hx hb dX2_forget_16 rfl (lv_at hl 1 rfl) ?_
        refine s_get (a := 0) (b := 3) (ci := 2) X hw rfl rfl gX2 0 (by decide) fl_X2_13 rfl rfl dX2_forget_17 ?_
        refine lv_iload_n hx hb dX2_forget_20 rfl (lv_at hl 0 rfl) ?_
        refine s_aaldS (a := 0) (b := 4) (n := 40) (k := t) (t := 4) (q := L (nm 1 (2 * t))) X hw rfl rfl f1 (by omega) (by decide) (if_pos (show t < 40 by omega)) dX2_forget_21 ?_
        refine lv_iconst (v := (-1)) hx hb dX2_forget_22 (by decide) ?_
        refine q_putd X hw (pO1 (show t < 40 by omega)) hS fl_X2_47 rfl dX2_forget_23 (fun H locs hw hS => ?_)
        have hI := hI.dep (pO1 (show t < 40 by omega)) (Or.inl rfl)
        have hk := hk.putS (a := 1) (b := 2 * t) (k := 1) (v := (-1)) (by omega)
        refine lv_iinc (v := j + 1) (lv' := [(2, .int (j + 1)), (0, .ref (L (nm 0 3)))]) hx hb dX2_forget_26 hl (k := 0) rfl rfl (by decide) rfl (fun ls hl => ?_)
        refine lv_goto (tgt := 10) hx hb dX2_forget_29 (by decide) ?_
        exact (by omega : False).elim
    | succ n ih =>
      intro t j y H locs ls f0 f1 f2 f3 hw hS hl
      have hI := f2
      have hk := f3
      refine lv_iload_n hx hb dX2_forget_10 rfl (lv_at hl 0 rfl) ?_
      refine lv_bipush (v := 40) hx hb dX2_forget_11 (by decide) ?_
      refine lv_icmp_ge (tgt := 32) hx hb dX2_forget_13 (by decide) (fun c_2 => ?_) (fun c_2 => ?_)
      · skip
        have c_2n : t ≥ 40 := ngeT (a := t) (b := 40) f1 rfl (by omega) (by omega) c_2
        have c_2m : ¬ t < 40 := by omega
        exact m_vret X hr hlk hw hS (Nat.le_of_ble_eq_true rfl) (Nat.le_of_ble_eq_true rfl) ⟨rfl, _, rfl, hI, hk⟩ dX2_forget_32
      · skip
        have c_2n : ¬ t ≥ 40 := ngeF (a := t) (b := 40) f1 rfl (by omega) (by omega) c_2
        have c_2m : t < 40 := by omega
        refine lv_aload_n hx hb dX2_forget_16 rfl (lv_at hl 1 rfl) ?_
        refine s_get (a := 0) (b := 3) (ci := 2) X hw rfl rfl gX2 0 (by decide) fl_X2_13 rfl rfl dX2_forget_17 ?_
        refine lv_iload_n hx hb dX2_forget_20 rfl (lv_at hl 0 rfl) ?_
        refine s_aaldS (a := 0) (b := 4) (n := 40) (k := t) (t := 4) (q := L (nm 1 (2 * t))) X hw rfl rfl f1 (by omega) (by decide) (if_pos (show t < 40 by omega)) dX2_forget_21 ?_
        refine lv_iconst (v := (-1)) hx hb dX2_forget_22 (by decide) ?_
        refine q_putd X hw (pO1 (show t < 40 by omega)) hS fl_X2_47 rfl dX2_forget_23 (fun H locs hw hS => ?_)
        have hI := hI.dep (pO1 (show t < 40 by omega)) (Or.inl rfl)
        have hk := hk.putS (a := 1) (b := 2 * t) (k := 1) (v := (-1)) (by omega)
        refine lv_iinc (v := j + 1) (lv' := [(2, .int (j + 1)), (0, .ref (L (nm 0 3)))]) hx hb dX2_forget_26 hl (k := 0) rfl rfl (by decide) rfl (fun ls hl => ?_)
        refine lv_goto (tgt := 10) hx hb dX2_forget_29 (by decide) ?_
        exact ih (t + 1) _ _ _ _ ls (by omega) (nadd (a := t) (b := 1) f1 rfl) hI hk hw hS (lv_sub hl [0, 1] rfl)
  refine lv_aload_n hx hb dX2_forget_0 rfl (lv_at hl 0 rfl) ?_
  refine lv_aload_n hx hb dX2_forget_1 rfl (lv_at hl 1 rfl) ?_
  refine s_get (a := cm + 2) (b := 0) (ci := 0) X hw (c_cell hm 0 _ _ _) rfl gX0 4 (by decide) fl_X2_44 rfl rfl dX2_forget_2 ?_
  obtain ⟨z_3, hz_3, ez_3⟩ := (hI.2.1 cm hm).2.1
  refine lv_topi (fun v_4 ev_4 => ?_)
  obtain rfl : v_4 = nI (z_3) := ev_4.trans ez_3
  clear ev_4
  refine s_put (a := 0) (b := 3) (v := nI (z_3)) (ci := 2) (ty := tyX2 3) X hw hS 3 rfl rfl rfl gX2 tyX2 tyX2_ok nmX2 (by decide) fl_X2_31 rfl rfl (tyX2_ok 3 (by decide)) rfl rfl (show 3 < 6 by decide) dX2_forget_5 (fun H locs hw hS => ?_)
  have hI := hI.free (b := 3) (k := 3) (v := nI (z_3)) (by decide)
  have hk := hk.putS (a := 0) (b := 3) (k := 3) (v := nI (z_3)) (by omega)
  refine lv_iconst (v := 0) hx hb dX2_forget_8 (by decide) ?_
  refine lv_istore_n (lv' := [(2, .int 0), (0, .ref (L (nm 0 3))), (1, .ref (L (nm (cm + 2) 0)))]) hx hb dX2_forget_9 rfl hl (by decide) rfl (fun ls hl => ?_)
  exact KL 40 0 _ _ _ _ ls rfl rfl hI hk hw hS (lv_sub hl [0, 1] rfl)
theorem v_X2_arrives : mVm yX2_arrives cX2_arrives 5 (some .boolean) 3 := ⟨cd_X2_arrives, im_X2_arrives, se_X2_arrives, ini_X2, by decide, by decide, by decide +kernel⟩
set_option maxHeartbeats 4000000 in
set_option maxRecDepth 100000 in
theorem k_X2_arrives (Γ : mG) (l : Launch) (L : mI → Nat) (x : CS) (cm u v : Nat) (k : Int32) (hI : CInv x) (hm : cm < cN x) (hp2 : pOK x u v) : mMet Γ l yX2_arrives cX2_arrives 5 (some .boolean) { frames := 4, cells := 0, slots := 0, locals := 89 } [.ref (L (nm 0 3)), .ref (L (nm (cm + 2) 0)), .int k, .ref (L (nm u v))] L (cM Γ L x) (mQi Γ (fun r L1 M1 => (∃ t : Bool, r = bI t) ∧ mKf 0 3 5 Γ L x L1 M1)) := by
  refine m_start (by decide) (Nat.le_of_ble_eq_true rfl) ?_
  intro p e s m args below meth c A ls X hr hlk hnm hw hS hl
  have hx := X.1.1
  have hb := X.1.2.1
  have hl : lv_has ls 5 [(0, .ref (L (nm 0 3))), (1, .ref (L (nm (cm + 2) 0))), (2, .int k), (3, .ref (L (nm u v)))] := hl
  have hk : kf 0 3 5 x x := kf.rf
  refine lv_aload_n hx hb dX2_arrives_0 rfl (lv_at hl 1 rfl) ?_
  refine lv_iload_n hx hb dX2_arrives_1 rfl (lv_at hl 2 rfl) ?_
  refine lv_i2l (v := k.toInt64) hx hb dX2_arrives_2 rfl ?_
  refine m_calli (m_runV (i := nm (cm + 2) 0) (ci := 0) (As := [.long k.toInt64]) (rest := []) X (k_X0_hasInstruction Γ l L x cm k.toInt64 hm) v_X0_hasInstruction ml_X2_108 hw hS (c_cell hm 0 _ _ _) rfl rfl rfl hl.1 ⟨Nat.le_of_ble_eq_true rfl, Nat.le_of_ble_eq_true rfl⟩ (Nat.le_of_ble_eq_true rfl) ⟨Nat.le_of_ble_eq_true rfl, Nat.le_of_ble_eq_true rfl⟩ dX2_arrives_3) hS (fun r_1 L1 M1 H locs hp_1 hw hS => ?_)
  obtain ⟨rfl, e1, e2⟩ := hp_1
  rw [e1, e2] at hw; clear e1 e2
  refine lv_if_eq (tgt := 15) hx hb dX2_arrives_6 (by decide) (fun c_2 => ?_) (fun c_2 => ?_)
  · skip
    have c_2 := bI_f c_2
    refine lv_iconst (v := 0) hx hb dX2_arrives_15 (by decide) ?_
    exact m_zret (b := false) X hr hlk hw hS (Nat.le_of_ble_eq_true rfl) (Nat.le_of_ble_eq_true rfl) rfl ⟨⟨_, rfl⟩, ⟨rfl, _, rfl, hI, hk⟩⟩ dX2_arrives_16
  · skip
    have c_2 := bI_t c_2
    obtain ⟨kn, hkn, ek⟩ := hasI_nat hI hm c_2
    refine lv_iload_n hx hb dX2_arrives_9 rfl (lv_at hl 2 rfl) ?_
    refine lv_bipush (v := 40) hx hb dX2_arrives_10 (by decide) ?_
    refine lv_icmp_lt (tgt := 17) hx hb dX2_arrives_12 (by decide) (fun c_3 => ?_) (fun c_3 => ?_)
    · skip
      have c_3n : kn < 40 := nltT (a := kn) (b := 40) ek rfl (by omega) (by omega) c_3
      have c_3m : ¬ 40 ≤ kn := by omega
      refine lv_aload_n hx hb dX2_arrives_17 rfl (lv_at hl 0 rfl) ?_
      refine s_get (a := 0) (b := 3) (ci := 2) X hw rfl rfl gX2 0 (by decide) fl_X2_13 rfl rfl dX2_arrives_18 ?_
      refine lv_iload_n hx hb dX2_arrives_21 rfl (lv_at hl 2 rfl) ?_
      refine s_aaldS (a := 0) (b := 4) (n := 40) (k := kn) (t := 4) (q := L (nm 1 (2 * kn))) X hw rfl rfl ek (by omega) (by decide) (if_pos (show kn < 40 by omega)) dX2_arrives_22 ?_
      refine lv_astore (lv' := [(4, .ref (L (nm 1 (2 * kn)))), (0, .ref (L (nm 0 3))), (1, .ref (L (nm (cm + 2) 0))), (2, .int k), (3, .ref (L (nm u v)))]) hx hb dX2_arrives_23 hl (by decide) rfl (fun ls hl => ?_)
      refine lv_aload hx hb dX2_arrives_25 (lv_at hl 0 rfl) ?_
      refine q_getd X hw (pO1 (show kn < 40 by omega)) fl_X2_47 rfl dX2_arrives_27 ?_
      refine lv_if_ge (tgt := 46) hx hb dX2_arrives_30 (by decide) (fun c_4 => ?_) (fun c_4 => ?_)
      · skip
        obtain ⟨dz, hdz, edz⟩ := dnat (hI.2.2.1 1 (2 * kn) (pO1 hkn)) (Int32.not_lt.mpr c_4)
        refine lv_aload hx hb dX2_arrives_46 (lv_at hl 0 rfl) ?_
        refine q_getd X hw (pO1 (show kn < 40 by omega)) fl_X2_47 rfl dX2_arrives_48 ?_
        refine lv_aload_n hx hb dX2_arrives_51 rfl (lv_at hl 4 rfl) ?_
        refine q_getd X hw hp2 fl_X2_47 rfl dX2_arrives_52 ?_
        refine lv_icmp_eq (tgt := 60) hx hb dX2_arrives_55 (by decide) (fun c_5 => ?_) (fun c_5 => ?_)
        · skip
          refine lv_aload hx hb dX2_arrives_60 (lv_at hl 0 rfl) ?_
          refine lv_aload_n hx hb dX2_arrives_62 rfl (lv_at hl 4 rfl) ?_
          have hw : mW Γ.1 vwCl A L (cM Γ L (sP x 1 (2 * kn) (x.2.1 1 (2 * kn + 1), dz))) H := by rw [sP_self (q := (x.2.1 1 (2 * kn + 1), dz)) edz rfl]; exact hw
          refine m_calli (m_runV (i := nm 1 (2 * kn)) (ci := 4) (As := [.ref (L (nm u v))]) (rest := []) X (k_X6_takeIn Γ l L x 1 (2 * kn) u v (x.2.1 1 (2 * kn + 1)) dz (pO1 (show kn < 40 by omega)) hp2 (by omega)) v_X6_takeIn ml_X2_126 hw hS (p_obj Γ L (c := sP x 1 (2 * kn) (x.2.1 1 (2 * kn + 1), dz)) (pO1 (show kn < 40 by omega))) rfl rfl rfl hl.1 ⟨Nat.le_of_ble_eq_true rfl, Nat.le_of_ble_eq_true rfl⟩ (Nat.le_of_ble_eq_true rfl) ⟨Nat.le_of_ble_eq_true rfl, Nat.le_of_ble_eq_true rfl⟩ dX2_arrives_63) hS (fun r_6 L1 M1 H locs hp_6 hw hS => ?_)
          obtain ⟨⟨t_6, rfl⟩, ⟨h_6, d_6⟩, hd_6, e1, e2⟩ := hp_6
          have hd_6 : d_6 ≤ 8 := hd_6
          rw [e1, e2] at hw; clear e1 e2
          refine lv_if_eq (tgt := 74) hx hb dX2_arrives_66 (by decide) (fun c_7 => ?_) (fun c_7 => ?_)
          · skip
            have c_7 := bI_f c_7
            refine lv_iconst (v := 1) hx hb dX2_arrives_74 (by decide) ?_
            exact m_zret (b := true) X hr hlk hw hS (Nat.le_of_ble_eq_true rfl) (Nat.le_of_ble_eq_true rfl) rfl ⟨⟨_, rfl⟩, ⟨rfl, _, rfl, (CInv.putP (a := 1) (b := 2 * kn) (q := (h_6, d_6)) hI (pO1 (show kn < 40 by omega)) (by show d_6 ≤ 8; omega)), (hk.putP (a := 1) (b := 2 * kn) (q := (h_6, d_6)) (by omega))⟩⟩ dX2_arrives_75
          · skip
            have c_7 := bI_t c_7
            refine lv_aload_n hx hb dX2_arrives_69 rfl (lv_at hl 1 rfl) ?_
            refine lv_iconst (v := 1) hx hb dX2_arrives_70 (by decide) ?_
            refine s_put (a := 0) (b := 3) (v := 1) (ci := 2) (ty := tyX2 4) X hw hS 4 rfl rfl rfl gX2 tyX2 tyX2_ok nmX2 (by decide) fl_X2_119 rfl rfl (tyX2_ok 4 (by decide)) rfl rfl (show 4 < 6 by decide) dX2_arrives_71 (fun H locs hw hS => ?_)
            rw [sP_tSo (by first | decide | omega)] at hw
            have hI := hI.free (b := 3) (k := 4) (v := 1) (by decide)
            have hk := hk.putS (a := 0) (b := 3) (k := 4) (v := 1) (by omega)
            refine lv_iconst (v := 1) hx hb dX2_arrives_74 (by decide) ?_
            exact m_zret (b := true) X hr hlk hw hS (Nat.le_of_ble_eq_true rfl) (Nat.le_of_ble_eq_true rfl) rfl ⟨⟨_, rfl⟩, ⟨rfl, _, rfl, (CInv.putP (a := 1) (b := 2 * kn) (q := (h_6, d_6)) hI (pO1 (show kn < 40 by omega)) (by show d_6 ≤ 8; omega)), (hk.putP (a := 1) (b := 2 * kn) (q := (h_6, d_6)) (by omega))⟩⟩ dX2_arrives_75
        · skip
          refine lv_iconst (v := 0) hx hb dX2_arrives_58 (by decide) ?_
          exact m_zret (b := false) X hr hlk hw hS (Nat.le_of_ble_eq_true rfl) (Nat.le_of_ble_eq_true rfl) rfl ⟨⟨_, rfl⟩, ⟨rfl, _, rfl, hI, hk⟩⟩ dX2_arrives_59
      · skip
        refine lv_aload hx hb dX2_arrives_33 (lv_at hl 0 rfl) ?_
        refine lv_aload_n hx hb dX2_arrives_35 rfl (lv_at hl 4 rfl) ?_
        refine m_callv (m_runV (i := nm 1 (2 * kn)) (ci := 4) (As := [.ref (L (nm u v))]) (rest := []) X (k_X6_copyFrom Γ l L x 1 (2 * kn) u v (pO1 (show kn < 40 by omega)) hp2) v_X6_copyFrom ml_X2_72 hw hS (p_obj Γ L (c := x) (pO1 (show kn < 40 by omega))) rfl rfl rfl hl.1 ⟨Nat.le_of_ble_eq_true rfl, Nat.le_of_ble_eq_true rfl⟩ (Nat.le_of_ble_eq_true rfl) ⟨Nat.le_of_ble_eq_true rfl, Nat.le_of_ble_eq_true rfl⟩ dX2_arrives_36) hS (fun L1 M1 H locs hp_8 hw hS => ?_)
        obtain ⟨e1, e2⟩ := hp_8
        rw [e1, e2] at hw; clear e1 e2
        obtain ⟨g_8, eg_8⟩ : ∃ gz : Nat → Int32, gz = cpy16 (x.2.1 u (v + 1)) (x.2.1 1 (2 * kn + 1)) := ⟨_, rfl⟩
        rw [← eg_8] at hw
        have hI := CInv.dep (a := 1) (b := 2 * kn) (v := x.1 u v 1) (CInv.putVs (a := 1) (b := 2 * kn + 1) (f := g_8) hI (by omega)) (pO1 (show kn < 40 by omega)) (hI.2.2.1 _ _ hp2)
        have hk := (hk.putVs (a := 1) (b := 2 * kn + 1) (f := g_8) (by omega)).putS (a := 1) (b := 2 * kn) (k := 1) (v := x.1 u v 1) (by omega)
        refine lv_aload_n hx hb dX2_arrives_39 rfl (lv_at hl 1 rfl) ?_
        refine lv_iconst (v := 1) hx hb dX2_arrives_40 (by decide) ?_
        refine s_put (a := 0) (b := 3) (v := 1) (ci := 2) (ty := tyX2 4) X hw hS 4 rfl rfl rfl gX2 tyX2 tyX2_ok nmX2 (by decide) fl_X2_119 rfl rfl (tyX2_ok 4 (by decide)) rfl rfl (show 4 < 6 by decide) dX2_arrives_41 (fun H locs hw hS => ?_)
        have hI := hI.free (b := 3) (k := 4) (v := 1) (by decide)
        have hk := hk.putS (a := 0) (b := 3) (k := 4) (v := 1) (by omega)
        refine lv_iconst (v := 1) hx hb dX2_arrives_44 (by decide) ?_
        exact m_zret (b := true) X hr hlk hw hS (Nat.le_of_ble_eq_true rfl) (Nat.le_of_ble_eq_true rfl) rfl ⟨⟨_, rfl⟩, ⟨rfl, _, rfl, hI, hk⟩⟩ dX2_arrives_45
    · skip
      have c_3n : ¬ kn < 40 := nltF (a := kn) (b := 40) ek rfl (by omega) (by omega) c_3
      have c_3m : 40 ≤ kn := by omega
      refine lv_iconst (v := 0) hx hb dX2_arrives_15 (by decide) ?_
      exact m_zret (b := false) X hr hlk hw hS (Nat.le_of_ble_eq_true rfl) (Nat.le_of_ble_eq_true rfl) rfl ⟨⟨_, rfl⟩, ⟨rfl, _, rfl, hI, hk⟩⟩ dX2_arrives_16
theorem v_X2_leadsToFrame : mVm yX2_leadsToFrame cX2_leadsToFrame 3 (some .boolean) 1 := ⟨cd_X2_leadsToFrame, im_X2_leadsToFrame, se_X2_leadsToFrame, ini_X2, by decide, by decide, by decide +kernel⟩
set_option maxHeartbeats 4000000 in
set_option maxRecDepth 100000 in
theorem k_X2_leadsToFrame (Γ : mG) (l : Launch) (L : mI → Nat) (x : CS) (cm : Nat)  (hI : CInv x) (hm : cm < cN x) : mMet Γ l yX2_leadsToFrame cX2_leadsToFrame 3 (some .boolean) { frames := 3, cells := 0, slots := 0, locals := 64 } [.ref (L (nm 0 3)), .ref (L (nm (cm + 2) 0))] L (cM Γ L x) (mQi Γ (fun r L1 M1 => (∃ t : Bool, r = bI t) ∧ L1 = L ∧ M1 = cM Γ L x)) := by
  refine m_start (by decide) (Nat.le_of_ble_eq_true rfl) ?_
  intro p e s m args below meth c A ls X hr hlk hnm hw hS hl
  have hx := X.1.1
  have hb := X.1.2.1
  have hl : lv_has ls 3 [(0, .ref (L (nm 0 3))), (1, .ref (L (nm (cm + 2) 0)))] := hl
  refine lv_aload_n hx hb dX2_leadsToFrame_0 rfl (lv_at hl 0 rfl) ?_
  refine s_get (a := 0) (b := 3) (ci := 2) X hw rfl rfl gX2 2 (by decide) fl_X2_27 rfl rfl dX2_leadsToFrame_1 ?_
  refine s_get (a := 0) (b := 7) (ci := 6) X hw rfl rfl gX8 1 (by decide) fl_X2_92 rfl rfl dX2_leadsToFrame_4 ?_
  refine lv_if_ge (tgt := 12) hx hb dX2_leadsToFrame_7 (by decide) (fun c_1 => ?_) (fun c_1 => ?_)
  · skip
    refine lv_aload_n hx hb dX2_leadsToFrame_12 rfl (lv_at hl 1 rfl) ?_
    refine lv_aload_n hx hb dX2_leadsToFrame_13 rfl (lv_at hl 0 rfl) ?_
    refine s_get (a := 0) (b := 3) (ci := 2) X hw rfl rfl gX2 2 (by decide) fl_X2_27 rfl rfl dX2_leadsToFrame_14 ?_
    refine s_get (a := 0) (b := 7) (ci := 6) X hw rfl rfl gX8 1 (by decide) fl_X2_92 rfl rfl dX2_leadsToFrame_17 ?_
    refine m_callq (m_runV (i := nm (cm + 2) 0) (ci := 0) (As := [.int (x.1 0 7 1)]) (rest := []) X (k_X0_frameOf Γ l L x cm (x.1 0 7 1) hI hm) v_X0_frameOf ml_X2_64 hw hS (c_cell hm 0 _ _ _) rfl rfl rfl hl.1 ⟨Nat.le_of_ble_eq_true rfl, Nat.le_of_ble_eq_true rfl⟩ (Nat.le_of_ble_eq_true rfl) ⟨Nat.le_of_ble_eq_true rfl, Nat.le_of_ble_eq_true rfl⟩ dX2_leadsToFrame_20) hS (fun r_2 L1 M1 H locs hp_2 hw hS => ?_)
    obtain ⟨e1, e2, hq_2⟩ := hp_2
    rw [e1, e2] at hw; clear e1 e2
    rcases hq_2 with ⟨rfl, hno_2⟩ | ⟨i_2, d_2, hi_2, ei_2, hf_2, hd_2, ed_2, rfl⟩
    · skip
      refine va_rf_none ?_
      refine lv_astore_nN (lv' := [(2, .null), (0, .ref (L (nm 0 3))), (1, .ref (L (nm (cm + 2) 0)))]) hx hb dX2_leadsToFrame_23 rfl hl (by decide) rfl (fun ls hl => ?_)
      refine lv_aload_nN hx hb dX2_leadsToFrame_24 rfl (lv_at hl 0 rfl) ?_
      refine lv_ifnullN (tgt := 46) hx hb dX2_leadsToFrame_25 (by decide) ?_
      refine lv_iconst (v := 0) hx hb dX2_leadsToFrame_46 (by decide) ?_
      exact m_zret (b := false) X hr hlk hw hS (Nat.le_of_ble_eq_true rfl) (Nat.le_of_ble_eq_true rfl) rfl ⟨⟨_, rfl⟩, rfl, rfl⟩ dX2_leadsToFrame_47
    · skip
      refine va_rf_some ?_
      refine lv_astore_n (lv' := [(2, .ref (L (nm (cm + 2) (2 * i_2 + 8)))), (0, .ref (L (nm 0 3))), (1, .ref (L (nm (cm + 2) 0)))]) hx hb dX2_leadsToFrame_23 rfl hl (by decide) rfl (fun ls hl => ?_)
      refine lv_aload_n hx hb dX2_leadsToFrame_24 rfl (lv_at hl 0 rfl) ?_
      refine lv_ifnull hx hb dX2_leadsToFrame_25 ?_
      refine lv_aload_n hx hb dX2_leadsToFrame_28 rfl (lv_at hl 1 rfl) ?_
      refine s_get (a := 0) (b := 3) (ci := 2) X hw rfl rfl gX2 2 (by decide) fl_X2_27 rfl rfl dX2_leadsToFrame_29 ?_
      refine s_get (a := 0) (b := 7) (ci := 6) X hw rfl rfl gX8 0 (by decide) fl_X2_54 rfl rfl dX2_leadsToFrame_32 ?_
      refine lv_aload_n hx hb dX2_leadsToFrame_35 rfl (lv_at hl 0 rfl) ?_
      refine m_calli (m_runV (i := nm 0 8) (ci := 4) (As := [.ref (L (nm (cm + 2) (2 * i_2 + 8)))]) (rest := []) X (k_X6_goesTo Γ l L x 0 8 (cm + 2) (2 * i_2 + 8) pO8 (pOF hm hi_2 hf_2)) v_X6_goesTo ml_X2_68 hw hS (p_obj Γ L (c := x) pO8) rfl rfl rfl hl.1 ⟨Nat.le_of_ble_eq_true rfl, Nat.le_of_ble_eq_true rfl⟩ (Nat.le_of_ble_eq_true rfl) ⟨Nat.le_of_ble_eq_true rfl, Nat.le_of_ble_eq_true rfl⟩ dX2_leadsToFrame_36) hS (fun r_3 L1 M1 H locs hp_3 hw hS => ?_)
      obtain ⟨⟨t_3, rfl⟩, e1, e2⟩ := hp_3
      rw [e1, e2] at hw; clear e1 e2
      refine lv_if_eq (tgt := 46) hx hb dX2_leadsToFrame_39 (by decide) (fun c_4 => ?_) (fun c_4 => ?_)
      · skip
        have c_4 := bI_f c_4
        refine lv_iconst (v := 0) hx hb dX2_leadsToFrame_46 (by decide) ?_
        exact m_zret (b := false) X hr hlk hw hS (Nat.le_of_ble_eq_true rfl) (Nat.le_of_ble_eq_true rfl) rfl ⟨⟨_, rfl⟩, rfl, rfl⟩ dX2_leadsToFrame_47
      · skip
        have c_4 := bI_t c_4
        refine lv_iconst (v := 1) hx hb dX2_leadsToFrame_42 (by decide) ?_
        refine lv_goto (tgt := 47) hx hb dX2_leadsToFrame_43 (by decide) ?_
        exact m_zret (b := true) X hr hlk hw hS (Nat.le_of_ble_eq_true rfl) (Nat.le_of_ble_eq_true rfl) rfl ⟨⟨_, rfl⟩, rfl, rfl⟩ dX2_leadsToFrame_47
  · skip
    refine lv_iconst (v := 1) hx hb dX2_leadsToFrame_10 (by decide) ?_
    exact m_zret (b := true) X hr hlk hw hS (Nat.le_of_ble_eq_true rfl) (Nat.le_of_ble_eq_true rfl) rfl ⟨⟨_, rfl⟩, rfl, rfl⟩ dX2_leadsToFrame_11
theorem v_X2_handlersFit : mVm yX2_handlersFit cX2_handlersFit 5 (some .boolean) 2 := ⟨cd_X2_handlersFit, im_X2_handlersFit, se_X2_handlersFit, ini_X2, by decide, by decide, by decide +kernel⟩
set_option maxHeartbeats 4000000 in
set_option maxRecDepth 100000 in
theorem k_X2_handlersFit (Γ : mG) (l : Launch) (L : mI → Nat) (x : CS) (cm kn : Nat) (k : Int32) (hI : CInv x) (hm : cm < cN x) (hkn : kn < 40) (ek : k = nI kn) : mMet Γ l yX2_handlersFit cX2_handlersFit 5 (some .boolean) { frames := 3, cells := 0, slots := 0, locals := 64 } [.ref (L (nm 0 3)), .ref (L (nm (cm + 2) 0)), .int k] L (cM Γ L x) (mQi Γ (mPz Γ L x 0 5)) := by
  refine m_start (by decide) (Nat.le_of_ble_eq_true rfl) ?_
  intro p e s m args below meth c A ls X hr hlk hnm hw hS hl
  have hx := X.1.1
  have hb := X.1.2.1
  have hl : lv_has ls 5 [(0, .ref (L (nm 0 3))), (1, .ref (L (nm (cm + 2) 0))), (2, .int k)] := hl
  have KL : ∀ (n : Nat) (t : Nat) (j : Int32) (g : Nat → Int32) (dd : Nat) (H : Heap) (locs : List Loc) (ls : Array Slot), t + n = 6 → j = nI t → dd ≤ 8 → mW Γ.1 vwCl A L (cM Γ L (sP x 0 5 (g, dd))) H → va_S A s.heap H locs → lv_has ls 5 [(3, .int j), (0, .ref (L (nm 0 3))), (1, .ref (L (nm (cm + 2) 0))), (2, .int k)] → W p l e { frames := 3, cells := 0, slots := 0, locals := 64 } s m args below meth c H locs 0 0 (MQ below (mQi Γ (mPz Γ L x 0 5) A) args s 0 0 A) (F0 m 15 ls []) := by
    intro n
    induction n with
    | zero =>
      intro t j g dd H locs ls f0 f1 f2 hw hS hl
      refine lv_iload_n hx hb dX2_handlersFit_15 rfl (lv_at hl 0 rfl) ?_
      refine lv_aload_n hx hb dX2_handlersFit_16 rfl (lv_at hl 2 rfl) ?_
      refine s_get (a := cm + 2) (b := 0) (ci := 0) X hw (c_cell hm 0 _ _ _) rfl gX0 9 (by decide) fl_X2_98 rfl rfl dX2_handlersFit_17 ?_
      obtain ⟨z_1, hz_1, ez_1⟩ := ((CInv.putP (a := 0) (b := 5) (q := (g, dd)) hI pO5 (by show dd ≤ 8; omega)).2.1 cm hm).2.2
      refine lv_icmp_ge (tgt := 83) hx hb dX2_handlersFit_20 (by decide) (fun c_2 => ?_) (fun c_2 => ?_)
      · skip
        have c_2n : t ≥ z_1 := ngeT (a := t) (b := z_1) f1 ez_1 (by omega) (by omega) c_2
        have c_2m : ¬ t < z_1 := by omega
        refine lv_iconst (v := 1) hx hb dX2_handlersFit_83 (by decide) ?_
        exact m_zret (b := true) X hr hlk hw hS (Nat.le_of_ble_eq_true rfl) (Nat.le_of_ble_eq_true rfl) rfl ⟨⟨_, rfl⟩, (g, dd), by show dd ≤ 8; omega, rfl, rfl⟩ dX2_handlersFit_84
      · skip
        have c_2n : ¬ t ≥ z_1 := ngeF (a := t) (b := z_1) f1 ez_1 (by omega) (by omega) c_2
        have c_2m : t < z_1 := by omega
        refine lv_aload_n hx hb dX2_handlersFit_23 rfl (lv_at hl 2 rfl) ?_
        refine lv_iload_n hx hb dX2_handlersFit_24 rfl (lv_at hl 0 rfl) ?_
        refine lv_iload_n hx hb dX2_handlersFit_25 rfl (lv_at hl 3 rfl) ?_
        refine m_calli (m_runV (i := nm (cm + 2) 0) (ci := 0) (As := [.int j, .int k]) (rest := []) X (k_X0_covers Γ l L (sP x 0 5 (g, dd)) cm j k (CInv.putP (a := 0) (b := 5) (q := (g, dd)) hI pO5 (by show dd ≤ 8; omega)) hm) v_X0_covers ml_X2_101 hw hS (c_cell hm 0 _ _ _) rfl rfl rfl hl.1 ⟨Nat.le_of_ble_eq_true rfl, Nat.le_of_ble_eq_true rfl⟩ (Nat.le_of_ble_eq_true rfl) ⟨Nat.le_of_ble_eq_true rfl, Nat.le_of_ble_eq_true rfl⟩ dX2_handlersFit_26) hS (fun r_3 L1 M1 H locs hp_3 hw hS => ?_)
        obtain ⟨⟨t_3, rfl⟩, e1, e2⟩ := hp_3
        rw [e1, e2] at hw; clear e1 e2
        refine lv_if_eq (tgt := 77) hx hb dX2_handlersFit_29 (by decide) (fun c_4 => ?_) (fun c_4 => ?_)
        · skip
          have c_4 := bI_f c_4
          refine lv_iinc (v := j + 1) (lv' := [(3, .int (j + 1)), (0, .ref (L (nm 0 3))), (1, .ref (L (nm (cm + 2) 0))), (2, .int k)]) hx hb dX2_handlersFit_77 hl (k := 0) rfl rfl (by decide) rfl (fun ls hl => ?_)
          refine lv_goto (tgt := 15) hx hb dX2_handlersFit_80 (by decide) ?_
          exact (by omega : False).elim
        · skip
          have c_4 := bI_t c_4
          refine lv_aload_n hx hb dX2_handlersFit_32 rfl (lv_at hl 2 rfl) ?_
          refine lv_aload_n hx hb dX2_handlersFit_33 rfl (lv_at hl 2 rfl) ?_
          refine s_get (a := cm + 2) (b := 0) (ci := 0) X hw (c_cell hm 0 _ _ _) rfl gX0 7 (by decide) fl_X2_105 rfl rfl dX2_handlersFit_34 ?_
          refine lv_iload_n hx hb dX2_handlersFit_37 rfl (lv_at hl 0 rfl) ?_
          refine s_iald (n := 6) (k := t) X hw (c_cell hm 5 _ _ _) f1 (by omega) (by decide) dX2_handlersFit_38 ?_
          refine m_callq (m_runV (i := nm (cm + 2) 0) (ci := 0) (As := [.int ((sP x 0 5 (g, dd)).2.1 (cm + 2) 5 t)]) (rest := []) X (k_X0_frameOf Γ l L (sP x 0 5 (g, dd)) cm ((sP x 0 5 (g, dd)).2.1 (cm + 2) 5 t) (CInv.putP (a := 0) (b := 5) (q := (g, dd)) hI pO5 (by show dd ≤ 8; omega)) hm) v_X0_frameOf ml_X2_64 hw hS (c_cell hm 0 _ _ _) rfl rfl rfl hl.1 ⟨Nat.le_of_ble_eq_true rfl, Nat.le_of_ble_eq_true rfl⟩ (Nat.le_of_ble_eq_true rfl) ⟨Nat.le_of_ble_eq_true rfl, Nat.le_of_ble_eq_true rfl⟩ dX2_handlersFit_39) hS (fun r_5 L1 M1 H locs hp_5 hw hS => ?_)
          obtain ⟨e1, e2, hq_5⟩ := hp_5
          rw [e1, e2] at hw; clear e1 e2
          rcases hq_5 with ⟨rfl, hno_5⟩ | ⟨i_5, d_5, hi_5, ei_5, hf_5, hd_5, ed_5, rfl⟩
          · skip
            refine va_rf_none ?_
            refine lv_astoreN (lv' := [(4, .null), (3, .int j), (0, .ref (L (nm 0 3))), (1, .ref (L (nm (cm + 2) 0))), (2, .int k)]) hx hb dX2_handlersFit_42 hl (by decide) rfl (fun ls hl => ?_)
            refine lv_aloadN hx hb dX2_handlersFit_44 (lv_at hl 0 rfl) ?_
            refine lv_ifnullN (tgt := 75) hx hb dX2_handlersFit_46 (by decide) ?_
            refine lv_iconst (v := 0) hx hb dX2_handlersFit_75 (by decide) ?_
            exact m_zret (b := false) X hr hlk hw hS (Nat.le_of_ble_eq_true rfl) (Nat.le_of_ble_eq_true rfl) rfl ⟨⟨_, rfl⟩, (g, dd), by show dd ≤ 8; omega, rfl, rfl⟩ dX2_handlersFit_76
          · skip
            refine va_rf_some ?_
            refine lv_astore (lv' := [(4, .ref (L (nm (cm + 2) (2 * i_5 + 8)))), (3, .int j), (0, .ref (L (nm 0 3))), (1, .ref (L (nm (cm + 2) 0))), (2, .int k)]) hx hb dX2_handlersFit_42 hl (by decide) rfl (fun ls hl => ?_)
            refine lv_aload hx hb dX2_handlersFit_44 (lv_at hl 0 rfl) ?_
            refine lv_ifnull hx hb dX2_handlersFit_46 ?_
            refine lv_aload_n hx hb dX2_handlersFit_49 rfl (lv_at hl 3 rfl) ?_
            refine lv_aload_n hx hb dX2_handlersFit_50 rfl (lv_at hl 3 rfl) ?_
            refine s_get (a := cm + 2) (b := 0) (ci := 0) X hw (c_cell hm 0 _ _ _) rfl gX0 7 (by decide) fl_X2_105 rfl rfl dX2_handlersFit_51 ?_
            refine lv_iload_n hx hb dX2_handlersFit_54 rfl (lv_at hl 1 rfl) ?_
            refine s_iald (n := 6) (k := t) X hw (c_cell hm 5 _ _ _) f1 (by omega) (by decide) dX2_handlersFit_55 ?_
            refine lv_i2l (v := ((sP x 0 5 (g, dd)).2.1 (cm + 2) 5 t).toInt64) hx hb dX2_handlersFit_56 rfl ?_
            refine m_calli (m_runV (i := nm (cm + 2) 0) (ci := 0) (As := [.long (((sP x 0 5 (g, dd)).2.1 (cm + 2) 5 t).toInt64)]) (rest := []) X (k_X0_hasInstruction Γ l L (sP x 0 5 (g, dd)) cm (((sP x 0 5 (g, dd)).2.1 (cm + 2) 5 t).toInt64) hm) v_X0_hasInstruction ml_X2_108 hw hS (c_cell hm 0 _ _ _) rfl rfl rfl hl.1 ⟨Nat.le_of_ble_eq_true rfl, Nat.le_of_ble_eq_true rfl⟩ (Nat.le_of_ble_eq_true rfl) ⟨Nat.le_of_ble_eq_true rfl, Nat.le_of_ble_eq_true rfl⟩ dX2_handlersFit_57) hS (fun r_6 L1 M1 H locs hp_6 hw hS => ?_)
            obtain ⟨rfl, e1, e2⟩ := hp_6
            rw [e1, e2] at hw; clear e1 e2
            refine lv_if_eq (tgt := 75) hx hb dX2_handlersFit_60 (by decide) (fun c_7 => ?_) (fun c_7 => ?_)
            · skip
              have c_7 := bI_f c_7
              refine lv_iconst (v := 0) hx hb dX2_handlersFit_75 (by decide) ?_
              exact m_zret (b := false) X hr hlk hw hS (Nat.le_of_ble_eq_true rfl) (Nat.le_of_ble_eq_true rfl) rfl ⟨⟨_, rfl⟩, (g, dd), by show dd ≤ 8; omega, rfl, rfl⟩ dX2_handlersFit_76
            · skip
              have c_7 := bI_t c_7
              refine lv_aload_n hx hb dX2_handlersFit_63 rfl (lv_at hl 2 rfl) ?_
              refine s_get (a := 0) (b := 3) (ci := 2) X hw rfl rfl gX2 1 (by decide) fl_X2_20 rfl rfl dX2_handlersFit_64 ?_
              refine lv_aload hx hb dX2_handlersFit_67 (lv_at hl 0 rfl) ?_
              refine m_calli (m_runV (i := nm 0 5) (ci := 4) (As := [.ref (L (nm (cm + 2) (2 * i_5 + 8)))]) (rest := []) X (k_X6_goesTo Γ l L (sP x 0 5 (g, dd)) 0 5 (cm + 2) (2 * i_5 + 8) pO5 (pOF hm hi_5 hf_5)) v_X6_goesTo ml_X2_68 hw hS (p_obj Γ L (c := sP x 0 5 (g, dd)) pO5) rfl rfl rfl hl.1 ⟨Nat.le_of_ble_eq_true rfl, Nat.le_of_ble_eq_true rfl⟩ (Nat.le_of_ble_eq_true rfl) ⟨Nat.le_of_ble_eq_true rfl, Nat.le_of_ble_eq_true rfl⟩ dX2_handlersFit_69) hS (fun r_8 L1 M1 H locs hp_8 hw hS => ?_)
              obtain ⟨⟨t_8, rfl⟩, e1, e2⟩ := hp_8
              rw [e1, e2] at hw; clear e1 e2
              refine lv_if_ne (tgt := 77) hx hb dX2_handlersFit_72 (by decide) (fun c_9 => ?_) (fun c_9 => ?_)
              · skip
                have c_9 := bI_t c_9
                refine lv_iinc (v := j + 1) (lv' := [(3, .int (j + 1)), (4, .ref (L (nm (cm + 2) (2 * i_5 + 8)))), (0, .ref (L (nm 0 3))), (1, .ref (L (nm (cm + 2) 0))), (2, .int k)]) hx hb dX2_handlersFit_77 hl (k := 1) rfl rfl (by decide) rfl (fun ls hl => ?_)
                refine lv_goto (tgt := 15) hx hb dX2_handlersFit_80 (by decide) ?_
                exact (by omega : False).elim
              · skip
                have c_9 := bI_f c_9
                refine lv_iconst (v := 0) hx hb dX2_handlersFit_75 (by decide) ?_
                exact m_zret (b := false) X hr hlk hw hS (Nat.le_of_ble_eq_true rfl) (Nat.le_of_ble_eq_true rfl) rfl ⟨⟨_, rfl⟩, (g, dd), by show dd ≤ 8; omega, rfl, rfl⟩ dX2_handlersFit_76
    | succ n ih =>
      intro t j g dd H locs ls f0 f1 f2 hw hS hl
      refine lv_iload_n hx hb dX2_handlersFit_15 rfl (lv_at hl 0 rfl) ?_
      refine lv_aload_n hx hb dX2_handlersFit_16 rfl (lv_at hl 2 rfl) ?_
      refine s_get (a := cm + 2) (b := 0) (ci := 0) X hw (c_cell hm 0 _ _ _) rfl gX0 9 (by decide) fl_X2_98 rfl rfl dX2_handlersFit_17 ?_
      obtain ⟨z_10, hz_10, ez_10⟩ := ((CInv.putP (a := 0) (b := 5) (q := (g, dd)) hI pO5 (by show dd ≤ 8; omega)).2.1 cm hm).2.2
      refine lv_icmp_ge (tgt := 83) hx hb dX2_handlersFit_20 (by decide) (fun c_11 => ?_) (fun c_11 => ?_)
      · skip
        have c_11n : t ≥ z_10 := ngeT (a := t) (b := z_10) f1 ez_10 (by omega) (by omega) c_11
        have c_11m : ¬ t < z_10 := by omega
        refine lv_iconst (v := 1) hx hb dX2_handlersFit_83 (by decide) ?_
        exact m_zret (b := true) X hr hlk hw hS (Nat.le_of_ble_eq_true rfl) (Nat.le_of_ble_eq_true rfl) rfl ⟨⟨_, rfl⟩, (g, dd), by show dd ≤ 8; omega, rfl, rfl⟩ dX2_handlersFit_84
      · skip
        have c_11n : ¬ t ≥ z_10 := ngeF (a := t) (b := z_10) f1 ez_10 (by omega) (by omega) c_11
        have c_11m : t < z_10 := by omega
        refine lv_aload_n hx hb dX2_handlersFit_23 rfl (lv_at hl 2 rfl) ?_
        refine lv_iload_n hx hb dX2_handlersFit_24 rfl (lv_at hl 0 rfl) ?_
        refine lv_iload_n hx hb dX2_handlersFit_25 rfl (lv_at hl 3 rfl) ?_
        refine m_calli (m_runV (i := nm (cm + 2) 0) (ci := 0) (As := [.int j, .int k]) (rest := []) X (k_X0_covers Γ l L (sP x 0 5 (g, dd)) cm j k (CInv.putP (a := 0) (b := 5) (q := (g, dd)) hI pO5 (by show dd ≤ 8; omega)) hm) v_X0_covers ml_X2_101 hw hS (c_cell hm 0 _ _ _) rfl rfl rfl hl.1 ⟨Nat.le_of_ble_eq_true rfl, Nat.le_of_ble_eq_true rfl⟩ (Nat.le_of_ble_eq_true rfl) ⟨Nat.le_of_ble_eq_true rfl, Nat.le_of_ble_eq_true rfl⟩ dX2_handlersFit_26) hS (fun r_12 L1 M1 H locs hp_12 hw hS => ?_)
        obtain ⟨⟨t_12, rfl⟩, e1, e2⟩ := hp_12
        rw [e1, e2] at hw; clear e1 e2
        refine lv_if_eq (tgt := 77) hx hb dX2_handlersFit_29 (by decide) (fun c_13 => ?_) (fun c_13 => ?_)
        · skip
          have c_13 := bI_f c_13
          refine lv_iinc (v := j + 1) (lv' := [(3, .int (j + 1)), (0, .ref (L (nm 0 3))), (1, .ref (L (nm (cm + 2) 0))), (2, .int k)]) hx hb dX2_handlersFit_77 hl (k := 0) rfl rfl (by decide) rfl (fun ls hl => ?_)
          refine lv_goto (tgt := 15) hx hb dX2_handlersFit_80 (by decide) ?_
          exact ih (t + 1) _ _ _ _ _ ls (by omega) (nadd (a := t) (b := 1) f1 rfl) f2 hw hS (lv_sub hl [0, 1, 2, 3] rfl)
        · skip
          have c_13 := bI_t c_13
          refine lv_aload_n hx hb dX2_handlersFit_32 rfl (lv_at hl 2 rfl) ?_
          refine lv_aload_n hx hb dX2_handlersFit_33 rfl (lv_at hl 2 rfl) ?_
          refine s_get (a := cm + 2) (b := 0) (ci := 0) X hw (c_cell hm 0 _ _ _) rfl gX0 7 (by decide) fl_X2_105 rfl rfl dX2_handlersFit_34 ?_
          refine lv_iload_n hx hb dX2_handlersFit_37 rfl (lv_at hl 0 rfl) ?_
          refine s_iald (n := 6) (k := t) X hw (c_cell hm 5 _ _ _) f1 (by omega) (by decide) dX2_handlersFit_38 ?_
          refine m_callq (m_runV (i := nm (cm + 2) 0) (ci := 0) (As := [.int ((sP x 0 5 (g, dd)).2.1 (cm + 2) 5 t)]) (rest := []) X (k_X0_frameOf Γ l L (sP x 0 5 (g, dd)) cm ((sP x 0 5 (g, dd)).2.1 (cm + 2) 5 t) (CInv.putP (a := 0) (b := 5) (q := (g, dd)) hI pO5 (by show dd ≤ 8; omega)) hm) v_X0_frameOf ml_X2_64 hw hS (c_cell hm 0 _ _ _) rfl rfl rfl hl.1 ⟨Nat.le_of_ble_eq_true rfl, Nat.le_of_ble_eq_true rfl⟩ (Nat.le_of_ble_eq_true rfl) ⟨Nat.le_of_ble_eq_true rfl, Nat.le_of_ble_eq_true rfl⟩ dX2_handlersFit_39) hS (fun r_14 L1 M1 H locs hp_14 hw hS => ?_)
          obtain ⟨e1, e2, hq_14⟩ := hp_14
          rw [e1, e2] at hw; clear e1 e2
          rcases hq_14 with ⟨rfl, hno_14⟩ | ⟨i_14, d_14, hi_14, ei_14, hf_14, hd_14, ed_14, rfl⟩
          · skip
            refine va_rf_none ?_
            refine lv_astoreN (lv' := [(4, .null), (3, .int j), (0, .ref (L (nm 0 3))), (1, .ref (L (nm (cm + 2) 0))), (2, .int k)]) hx hb dX2_handlersFit_42 hl (by decide) rfl (fun ls hl => ?_)
            refine lv_aloadN hx hb dX2_handlersFit_44 (lv_at hl 0 rfl) ?_
            refine lv_ifnullN (tgt := 75) hx hb dX2_handlersFit_46 (by decide) ?_
            refine lv_iconst (v := 0) hx hb dX2_handlersFit_75 (by decide) ?_
            exact m_zret (b := false) X hr hlk hw hS (Nat.le_of_ble_eq_true rfl) (Nat.le_of_ble_eq_true rfl) rfl ⟨⟨_, rfl⟩, (g, dd), by show dd ≤ 8; omega, rfl, rfl⟩ dX2_handlersFit_76
          · skip
            refine va_rf_some ?_
            refine lv_astore (lv' := [(4, .ref (L (nm (cm + 2) (2 * i_14 + 8)))), (3, .int j), (0, .ref (L (nm 0 3))), (1, .ref (L (nm (cm + 2) 0))), (2, .int k)]) hx hb dX2_handlersFit_42 hl (by decide) rfl (fun ls hl => ?_)
            refine lv_aload hx hb dX2_handlersFit_44 (lv_at hl 0 rfl) ?_
            refine lv_ifnull hx hb dX2_handlersFit_46 ?_
            refine lv_aload_n hx hb dX2_handlersFit_49 rfl (lv_at hl 3 rfl) ?_
            refine lv_aload_n hx hb dX2_handlersFit_50 rfl (lv_at hl 3 rfl) ?_
            refine s_get (a := cm + 2) (b := 0) (ci := 0) X hw (c_cell hm 0 _ _ _) rfl gX0 7 (by decide) fl_X2_105 rfl rfl dX2_handlersFit_51 ?_
            refine lv_iload_n hx hb dX2_handlersFit_54 rfl (lv_at hl 1 rfl) ?_
            refine s_iald (n := 6) (k := t) X hw (c_cell hm 5 _ _ _) f1 (by omega) (by decide) dX2_handlersFit_55 ?_
            refine lv_i2l (v := ((sP x 0 5 (g, dd)).2.1 (cm + 2) 5 t).toInt64) hx hb dX2_handlersFit_56 rfl ?_
            refine m_calli (m_runV (i := nm (cm + 2) 0) (ci := 0) (As := [.long (((sP x 0 5 (g, dd)).2.1 (cm + 2) 5 t).toInt64)]) (rest := []) X (k_X0_hasInstruction Γ l L (sP x 0 5 (g, dd)) cm (((sP x 0 5 (g, dd)).2.1 (cm + 2) 5 t).toInt64) hm) v_X0_hasInstruction ml_X2_108 hw hS (c_cell hm 0 _ _ _) rfl rfl rfl hl.1 ⟨Nat.le_of_ble_eq_true rfl, Nat.le_of_ble_eq_true rfl⟩ (Nat.le_of_ble_eq_true rfl) ⟨Nat.le_of_ble_eq_true rfl, Nat.le_of_ble_eq_true rfl⟩ dX2_handlersFit_57) hS (fun r_15 L1 M1 H locs hp_15 hw hS => ?_)
            obtain ⟨rfl, e1, e2⟩ := hp_15
            rw [e1, e2] at hw; clear e1 e2
            refine lv_if_eq (tgt := 75) hx hb dX2_handlersFit_60 (by decide) (fun c_16 => ?_) (fun c_16 => ?_)
            · skip
              have c_16 := bI_f c_16
              refine lv_iconst (v := 0) hx hb dX2_handlersFit_75 (by decide) ?_
              exact m_zret (b := false) X hr hlk hw hS (Nat.le_of_ble_eq_true rfl) (Nat.le_of_ble_eq_true rfl) rfl ⟨⟨_, rfl⟩, (g, dd), by show dd ≤ 8; omega, rfl, rfl⟩ dX2_handlersFit_76
            · skip
              have c_16 := bI_t c_16
              refine lv_aload_n hx hb dX2_handlersFit_63 rfl (lv_at hl 2 rfl) ?_
              refine s_get (a := 0) (b := 3) (ci := 2) X hw rfl rfl gX2 1 (by decide) fl_X2_20 rfl rfl dX2_handlersFit_64 ?_
              refine lv_aload hx hb dX2_handlersFit_67 (lv_at hl 0 rfl) ?_
              refine m_calli (m_runV (i := nm 0 5) (ci := 4) (As := [.ref (L (nm (cm + 2) (2 * i_14 + 8)))]) (rest := []) X (k_X6_goesTo Γ l L (sP x 0 5 (g, dd)) 0 5 (cm + 2) (2 * i_14 + 8) pO5 (pOF hm hi_14 hf_14)) v_X6_goesTo ml_X2_68 hw hS (p_obj Γ L (c := sP x 0 5 (g, dd)) pO5) rfl rfl rfl hl.1 ⟨Nat.le_of_ble_eq_true rfl, Nat.le_of_ble_eq_true rfl⟩ (Nat.le_of_ble_eq_true rfl) ⟨Nat.le_of_ble_eq_true rfl, Nat.le_of_ble_eq_true rfl⟩ dX2_handlersFit_69) hS (fun r_17 L1 M1 H locs hp_17 hw hS => ?_)
              obtain ⟨⟨t_17, rfl⟩, e1, e2⟩ := hp_17
              rw [e1, e2] at hw; clear e1 e2
              refine lv_if_ne (tgt := 77) hx hb dX2_handlersFit_72 (by decide) (fun c_18 => ?_) (fun c_18 => ?_)
              · skip
                have c_18 := bI_t c_18
                refine lv_iinc (v := j + 1) (lv' := [(3, .int (j + 1)), (4, .ref (L (nm (cm + 2) (2 * i_14 + 8)))), (0, .ref (L (nm 0 3))), (1, .ref (L (nm (cm + 2) 0))), (2, .int k)]) hx hb dX2_handlersFit_77 hl (k := 1) rfl rfl (by decide) rfl (fun ls hl => ?_)
                refine lv_goto (tgt := 15) hx hb dX2_handlersFit_80 (by decide) ?_
                exact ih (t + 1) _ _ _ _ _ ls (by omega) (nadd (a := t) (b := 1) f1 rfl) f2 hw hS (lv_sub hl [0, 2, 3, 4] rfl)
              · skip
                have c_18 := bI_f c_18
                refine lv_iconst (v := 0) hx hb dX2_handlersFit_75 (by decide) ?_
                exact m_zret (b := false) X hr hlk hw hS (Nat.le_of_ble_eq_true rfl) (Nat.le_of_ble_eq_true rfl) rfl ⟨⟨_, rfl⟩, (g, dd), by show dd ≤ 8; omega, rfl, rfl⟩ dX2_handlersFit_76
  refine lv_aload_n hx hb dX2_handlersFit_0 rfl (lv_at hl 0 rfl) ?_
  refine s_get (a := 0) (b := 3) (ci := 2) X hw rfl rfl gX2 1 (by decide) fl_X2_20 rfl rfl dX2_handlersFit_1 ?_
  refine lv_aload_n hx hb dX2_handlersFit_4 rfl (lv_at hl 0 rfl) ?_
  refine s_get (a := 0) (b := 3) (ci := 2) X hw rfl rfl gX2 0 (by decide) fl_X2_13 rfl rfl dX2_handlersFit_5 ?_
  refine lv_iload_n hx hb dX2_handlersFit_8 rfl (lv_at hl 2 rfl) ?_
  refine s_aaldS (a := 0) (b := 4) (n := 40) (k := kn) (t := 4) (q := L (nm 1 (2 * kn))) X hw rfl rfl ek (by omega) (by decide) (if_pos (show kn < 40 by omega)) dX2_handlersFit_9 ?_
  refine m_callv (m_runV (i := nm 0 5) (ci := 4) (As := [.ref (L (nm 1 (2 * kn)))]) (rest := []) X (k_X6_becomeCaught Γ l L x 0 5 1 (2 * kn) pO5 (pO1 (show kn < 40 by omega))) v_X6_becomeCaught ml_X2_95 hw hS (p_obj Γ L (c := x) pO5) rfl rfl rfl hl.1 ⟨Nat.le_of_ble_eq_true rfl, Nat.le_of_ble_eq_true rfl⟩ (Nat.le_of_ble_eq_true rfl) ⟨Nat.le_of_ble_eq_true rfl, Nat.le_of_ble_eq_true rfl⟩ dX2_handlersFit_10) hS (fun L1 M1 H locs hp_19 hw hS => ?_)
  obtain ⟨⟨h_19, d_19⟩, hd_19, e1, e2⟩ := hp_19
  have hd_19 : d_19 ≤ 8 := hd_19
  rw [e1, e2] at hw; clear e1 e2
  refine lv_iconst (v := 0) hx hb dX2_handlersFit_13 (by decide) ?_
  refine lv_istore_n (lv' := [(3, .int 0), (0, .ref (L (nm 0 3))), (1, .ref (L (nm (cm + 2) 0))), (2, .int k)]) hx hb dX2_handlersFit_14 rfl hl (by decide) rfl (fun ls hl => ?_)
  exact KL 6 0 _ _ _ _ _ ls rfl rfl (by omega) hw hS (lv_sub hl [0, 1, 2, 3] rfl)
theorem v_X2_byFrames : mVm yX2_byFrames cX2_byFrames 7 (some .int) 2 := ⟨cd_X2_byFrames, im_X2_byFrames, se_X2_byFrames, ini_X2, by decide, by decide, by decide +kernel⟩
set_option maxHeartbeats 4000000 in
set_option maxRecDepth 100000 in
theorem k_X2_byFrames (Γ : mG) (l : Launch) (L : mI → Nat) (x : CS) (cm : Nat)  (hI : CInv x) (hm : cm < cN x) : mMet Γ l yX2_byFrames cX2_byFrames 7 (some .int) { frames := 5, cells := 0, slots := 0, locals := 116 } [.ref (L (nm 0 3)), .ref (L (nm 0 1)), .ref (L (nm (cm + 2) 0))] L (cM Γ L x) (mQi Γ (fun _ => mKv Γ L x)) := by
  refine m_start (by decide) (Nat.le_of_ble_eq_true rfl) ?_
  intro p e s m args below meth c A ls X hr hlk hnm hw hS hl
  have hx := X.1.1
  have hb := X.1.2.1
  have hl : lv_has ls 7 [(0, .ref (L (nm 0 3))), (1, .ref (L (nm 0 1))), (2, .ref (L (nm (cm + 2) 0)))] := hl
  have hk : kp x x := kp.rf
  have KL : ∀ (n : Nat) (t : Nat) (j z : Int32) (y : CS) (g : Nat → Int32) (dd : Nat) (H : Heap) (locs : List Loc) (ls : Array Slot), t + n = 40 → j = nI t → CInv y → kp x y → dd ≤ 8 → mW Γ.1 vwCl A L (cM Γ L (sP y 0 8 (g, dd))) H → va_S A s.heap H locs → lv_has ls 7 [(5, .int j), (4, .int z), (3, .ref (L (nm 0 8))), (0, .ref (L (nm 0 3))), (1, .ref (L (nm 0 1))), (2, .ref (L (nm (cm + 2) 0)))] → W p l e { frames := 5, cells := 0, slots := 0, locals := 116 } s m args below meth c H locs 0 0 (MQ below (mQi Γ (fun _ => mKv Γ L x) A) args s 0 0 A) (F0 m 27 ls []) := by
    intro n
    induction n with
    | zero =>
      intro t j z y g dd H locs ls f0 f1 f2 f3 f4 hw hS hl
      have hI := f2
      have hk := f3
      refine lv_iload hx hb dX2_byFrames_27 (lv_at hl 0 rfl) ?_
      refine lv_aload_n hx hb dX2_byFrames_29 rfl (lv_at hl 5 rfl) ?_
      refine s_get (a := cm + 2) (b := 0) (ci := 0) X hw (c_cell (hk.lt hm) 0 _ _ _) rfl gX0 4 (by decide) fl_X2_44 rfl rfl dX2_byFrames_30 ?_
      obtain ⟨z_1, hz_1, ez_1⟩ := ((CInv.putP (a := 0) (b := 8) (q := (g, dd)) hI pO8 (by show dd ≤ 8; omega)).2.1 cm (hk.lt hm)).2.1
      refine lv_icmp_ge (tgt := 157) hx hb dX2_byFrames_33 (by decide) (fun c_2 => ?_) (fun c_2 => ?_)
      · skip
        have c_2n : t ≥ z_1 := ngeT (a := t) (b := z_1) f1 ez_1 (by omega) (by omega) c_2
        have c_2m : ¬ t < z_1 := by omega
        refine lv_iload hx hb dX2_byFrames_157 (lv_at hl 1 rfl) ?_
        refine lv_if_eq (tgt := 171) hx hb dX2_byFrames_159 (by decide) (fun c_3 => ?_) (fun c_3 => ?_)
        · skip
          refine lv_iconst (v := 0) hx hb dX2_byFrames_171 (by decide) ?_
          exact m_iret X hr hlk hw hS (Nat.le_of_ble_eq_true rfl) (Nat.le_of_ble_eq_true rfl) ⟨rfl, _, rfl, (CInv.putP (a := 0) (b := 8) (q := (g, dd)) hI pO8 (by show dd ≤ 8; omega)), (hk.putP (a := 0) (b := 8) (q := (g, dd)) (by omega))⟩ dX2_byFrames_172
        · skip
          refine lv_iconst (v := 1) hx hb dX2_byFrames_162 (by decide) ?_
          refine lv_aload_n hx hb dX2_byFrames_163 rfl (lv_at hl 5 rfl) ?_
          refine s_get (a := cm + 2) (b := 0) (ci := 0) X hw (c_cell (hk.lt hm) 0 _ _ _) rfl gX0 4 (by decide) fl_X2_44 rfl rfl dX2_byFrames_164 ?_
          obtain ⟨z_4, hz_4, ez_4⟩ := ((CInv.putP (a := 0) (b := 8) (q := (g, dd)) hI pO8 (by show dd ≤ 8; omega)).2.1 cm (hk.lt hm)).2.1
          refine lv_iadd hx hb dX2_byFrames_167 ?_
          refine lv_goto (tgt := 172) hx hb dX2_byFrames_168 (by decide) ?_
          refine lv_topi (fun v_5 ev_5 => ?_)
          obtain rfl : v_5 = nI (1 + z_4) := ev_5.trans (nadd (a := 1) (b := z_4) rfl ez_4)
          clear ev_5
          exact m_iret X hr hlk hw hS (Nat.le_of_ble_eq_true rfl) (Nat.le_of_ble_eq_true rfl) ⟨rfl, _, rfl, (CInv.putP (a := 0) (b := 8) (q := (g, dd)) hI pO8 (by show dd ≤ 8; omega)), (hk.putP (a := 0) (b := 8) (q := (g, dd)) (by omega))⟩ dX2_byFrames_172
      · skip
        have c_2n : ¬ t ≥ z_1 := ngeF (a := t) (b := z_1) f1 ez_1 (by omega) (by omega) c_2
        have c_2m : t < z_1 := by omega
        refine lv_iload hx hb dX2_byFrames_36 (lv_at hl 0 rfl) ?_
        refine lv_bipush (v := 40) hx hb dX2_byFrames_38 (by decide) ?_
        refine lv_icmp_ge (tgt := 157) hx hb dX2_byFrames_40 (by decide) (fun c_6 => ?_) (fun c_6 => ?_)
        · skip
          have c_6n : t ≥ 40 := ngeT (a := t) (b := 40) f1 rfl (by omega) (by omega) c_6
          have c_6m : ¬ t < 40 := by omega
          refine lv_iload hx hb dX2_byFrames_157 (lv_at hl 1 rfl) ?_
          refine lv_if_eq (tgt := 171) hx hb dX2_byFrames_159 (by decide) (fun c_7 => ?_) (fun c_7 => ?_)
          · skip
            refine lv_iconst (v := 0) hx hb dX2_byFrames_171 (by decide) ?_
            exact m_iret X hr hlk hw hS (Nat.le_of_ble_eq_true rfl) (Nat.le_of_ble_eq_true rfl) ⟨rfl, _, rfl, (CInv.putP (a := 0) (b := 8) (q := (g, dd)) hI pO8 (by show dd ≤ 8; omega)), (hk.putP (a := 0) (b := 8) (q := (g, dd)) (by omega))⟩ dX2_byFrames_172
          · skip
            refine lv_iconst (v := 1) hx hb dX2_byFrames_162 (by decide) ?_
            refine lv_aload_n hx hb dX2_byFrames_163 rfl (lv_at hl 5 rfl) ?_
            refine s_get (a := cm + 2) (b := 0) (ci := 0) X hw (c_cell (hk.lt hm) 0 _ _ _) rfl gX0 4 (by decide) fl_X2_44 rfl rfl dX2_byFrames_164 ?_
            obtain ⟨z_8, hz_8, ez_8⟩ := ((CInv.putP (a := 0) (b := 8) (q := (g, dd)) hI pO8 (by show dd ≤ 8; omega)).2.1 cm (hk.lt hm)).2.1
            refine lv_iadd hx hb dX2_byFrames_167 ?_
            refine lv_goto (tgt := 172) hx hb dX2_byFrames_168 (by decide) ?_
            refine lv_topi (fun v_9 ev_9 => ?_)
            obtain rfl : v_9 = nI (1 + z_8) := ev_9.trans (nadd (a := 1) (b := z_8) rfl ez_8)
            clear ev_9
            exact m_iret X hr hlk hw hS (Nat.le_of_ble_eq_true rfl) (Nat.le_of_ble_eq_true rfl) ⟨rfl, _, rfl, (CInv.putP (a := 0) (b := 8) (q := (g, dd)) hI pO8 (by show dd ≤ 8; omega)), (hk.putP (a := 0) (b := 8) (q := (g, dd)) (by omega))⟩ dX2_byFrames_172
        · skip
          have c_6n : ¬ t ≥ 40 := ngeF (a := t) (b := 40) f1 rfl (by omega) (by omega) c_6
          have c_6m : t < 40 := by omega
          refine lv_aload_n hx hb dX2_byFrames_43 rfl (lv_at hl 5 rfl) ?_
          refine lv_iload hx hb dX2_byFrames_44 (lv_at hl 0 rfl) ?_
          refine m_callq (m_runV (i := nm (cm + 2) 0) (ci := 0) (As := [.int j]) (rest := []) X (k_X0_frameOf Γ l L (sP y 0 8 (g, dd)) cm j (CInv.putP (a := 0) (b := 8) (q := (g, dd)) hI pO8 (by show dd ≤ 8; omega)) (hk.lt hm)) v_X0_frameOf ml_X2_64 hw hS (c_cell (hk.lt hm) 0 _ _ _) rfl rfl rfl hl.1 ⟨Nat.le_of_ble_eq_true rfl, Nat.le_of_ble_eq_true rfl⟩ (Nat.le_of_ble_eq_true rfl) ⟨Nat.le_of_ble_eq_true rfl, Nat.le_of_ble_eq_true rfl⟩ dX2_byFrames_46) hS (fun r_10 L1 M1 H locs hp_10 hw hS => ?_)
          obtain ⟨e1, e2, hq_10⟩ := hp_10
          rw [e1, e2] at hw; clear e1 e2
          rcases hq_10 with ⟨rfl, hno_10⟩ | ⟨i_10, d_10, hi_10, ei_10, hf_10, hd_10, ed_10, rfl⟩
          · skip
            refine va_rf_none ?_
            refine lv_astoreN (lv' := [(6, .null), (5, .int j), (4, .int z), (3, .ref (L (nm 0 8))), (0, .ref (L (nm 0 3))), (1, .ref (L (nm 0 1))), (2, .ref (L (nm (cm + 2) 0)))]) hx hb dX2_byFrames_49 hl (by decide) rfl (fun ls hl => ?_)
            refine lv_aloadN hx hb dX2_byFrames_51 (lv_at hl 0 rfl) ?_
            refine lv_ifnonnullN hx hb dX2_byFrames_53 ?_
            refine lv_iload hx hb dX2_byFrames_56 (lv_at hl 2 rfl) ?_
            refine lv_if_ne (tgt := 83) hx hb dX2_byFrames_58 (by decide) (fun c_11 => ?_) (fun c_11 => ?_)
            · skip
              refine lv_aloadN hx hb dX2_byFrames_83 (lv_at hl 0 rfl) ?_
              refine lv_ifnullN (tgt := 94) hx hb dX2_byFrames_85 (by decide) ?_
              refine lv_aload_n hx hb dX2_byFrames_94 rfl (lv_at hl 4 rfl) ?_
              refine s_get (a := 0) (b := 3) (ci := 2) X hw rfl rfl gX2 0 (by decide) fl_X2_13 rfl rfl dX2_byFrames_95 ?_
              refine lv_iload hx hb dX2_byFrames_98 (lv_at hl 1 rfl) ?_
              refine s_aaldS (a := 0) (b := 4) (n := 40) (k := t) (t := 4) (q := L (nm 1 (2 * t))) X hw rfl rfl f1 (by omega) (by decide) (if_pos (show t < 40 by omega)) dX2_byFrames_100 ?_
              refine lv_aload_n hx hb dX2_byFrames_101 rfl (lv_at hl 3 rfl) ?_
              refine m_callv (m_runV (i := nm 1 (2 * t)) (ci := 4) (As := [.ref (L (nm 0 8))]) (rest := []) X (k_X6_copyFrom Γ l L (sP y 0 8 (g, dd)) 1 (2 * t) 0 8 (pO1 (show t < 40 by omega)) pO8) v_X6_copyFrom ml_X2_72 hw hS (p_obj Γ L (c := sP y 0 8 (g, dd)) (pO1 (show t < 40 by omega))) rfl rfl rfl hl.1 ⟨Nat.le_of_ble_eq_true rfl, Nat.le_of_ble_eq_true rfl⟩ (Nat.le_of_ble_eq_true rfl) ⟨Nat.le_of_ble_eq_true rfl, Nat.le_of_ble_eq_true rfl⟩ dX2_byFrames_102) hS (fun L1 M1 H locs hp_12 hw hS => ?_)
              obtain ⟨e1, e2⟩ := hp_12
              rw [e1, e2] at hw; clear e1 e2
              obtain ⟨g_12, eg_12⟩ : ∃ gz : Nat → Int32, gz = cpy16 ((sP y 0 8 (g, dd)).2.1 0 (8 + 1)) ((sP y 0 8 (g, dd)).2.1 1 (2 * t + 1)) := ⟨_, rfl⟩
              rw [← eg_12] at hw
              rw [sP_dep, sP_tVso (by omega), sP_tSo (by omega)] at hw
              have hw : mW Γ.1 vwCl A L (cM Γ L (sP (sP y 1 (2 * t) (g_12, dd)) 0 8 (g, dd))) H := hw
              have hI := CInv.putP (a := 1) (b := 2 * t) (q := (g_12, dd)) hI (pO1 (show t < 40 by omega)) (by show dd ≤ 8; omega)
              have hk := hk.putP (a := 1) (b := 2 * t) (q := (g_12, dd)) (by omega)
              refine lv_aload_n hx hb dX2_byFrames_105 rfl (lv_at hl 4 rfl) ?_
              refine s_get (a := 0) (b := 3) (ci := 2) X hw rfl rfl gX2 2 (by decide) fl_X2_27 rfl rfl dX2_byFrames_106 ?_
              refine lv_aload_n hx hb dX2_byFrames_109 rfl (lv_at hl 5 rfl) ?_
              refine lv_aload_n hx hb dX2_byFrames_110 rfl (lv_at hl 6 rfl) ?_
              refine lv_iload hx hb dX2_byFrames_111 (lv_at hl 1 rfl) ?_
              refine m_calli (m_runV (i := nm 0 7) (ci := 6) (As := [.ref (L (nm 0 1)), .ref (L (nm (cm + 2) 0)), .int j]) (rest := []) X (k_X8_does Γ l L (sP y 1 (2 * t) (g_12, dd)) g dd cm j (by omega) hI (hk.lt hm)) v_X8_does ml_X2_76 hw hS rfl rfl rfl rfl hl.1 ⟨Nat.le_of_ble_eq_true rfl, Nat.le_of_ble_eq_true rfl⟩ (Nat.le_of_ble_eq_true rfl) ⟨Nat.le_of_ble_eq_true rfl, Nat.le_of_ble_eq_true rfl⟩ dX2_byFrames_113) hS (fun r_13 L1 M1 H locs hp_13 hw hS => ?_)
              obtain ⟨⟨t_13, rfl⟩, e1, v_13, w_13, ⟨h_13, d_13⟩, hd_13, e2⟩ := hp_13
              have hd_13 : d_13 ≤ 8 := hd_13
              rw [e1, e2] at hw; clear e1 e2
              have hI := (hI.free (b := 7) (k := 1) (v := v_13) (by decide)).free (b := 7) (k := 2) (v := w_13) (by decide)
              have hk := (hk.putS (a := 0) (b := 7) (k := 1) (v := v_13) (by omega)).putS (a := 0) (b := 7) (k := 2) (v := w_13) (by omega)
              refine lv_if_eq (tgt := 137) hx hb dX2_byFrames_116 (by decide) (fun c_14 => ?_) (fun c_14 => ?_)
              · skip
                have c_14 := bI_f c_14
                refine lv_iconst (v := 1) hx hb dX2_byFrames_137 (by decide) ?_
                refine lv_iload hx hb dX2_byFrames_138 (lv_at hl 1 rfl) ?_
                refine lv_iadd hx hb dX2_byFrames_140 ?_
                refine lv_topi (fun v_15 ev_15 => ?_)
                obtain rfl : v_15 = nI (1 + t) := ev_15.trans (nadd (a := 1) (b := t) rfl f1)
                clear ev_15
                exact m_iret X hr hlk hw hS (Nat.le_of_ble_eq_true rfl) (Nat.le_of_ble_eq_true rfl) ⟨rfl, _, rfl, (CInv.putP (a := 0) (b := 8) (q := (h_13, d_13)) hI pO8 (by show d_13 ≤ 8; omega)), (hk.putP (a := 0) (b := 8) (q := (h_13, d_13)) (by omega))⟩ dX2_byFrames_141
              · skip
                have c_14 := bI_t c_14
                refine lv_aload_n hx hb dX2_byFrames_119 rfl (lv_at hl 4 rfl) ?_
                refine lv_aload_n hx hb dX2_byFrames_120 rfl (lv_at hl 6 rfl) ?_
                refine m_calli (m_runV (i := nm 0 3) (ci := 2) (As := [.ref (L (nm (cm + 2) 0))]) (rest := []) X (k_X2_leadsToFrame Γ l L (sP (tS (tS (sP y 1 (2 * t) (g_12, dd)) 0 7 1 v_13) 0 7 2 w_13) 0 8 (h_13, d_13)) cm (CInv.putP (a := 0) (b := 8) (q := (h_13, d_13)) hI pO8 (by show d_13 ≤ 8; omega)) (hk.lt hm)) v_X2_leadsToFrame ml_X2_80 hw hS rfl rfl rfl rfl hl.1 ⟨Nat.le_of_ble_eq_true rfl, Nat.le_of_ble_eq_true rfl⟩ (Nat.le_of_ble_eq_true rfl) ⟨Nat.le_of_ble_eq_true rfl, Nat.le_of_ble_eq_true rfl⟩ dX2_byFrames_121) hS (fun r_16 L1 M1 H locs hp_16 hw hS => ?_)
                obtain ⟨⟨t_16, rfl⟩, e1, e2⟩ := hp_16
                rw [e1, e2] at hw; clear e1 e2
                refine lv_if_eq (tgt := 137) hx hb dX2_byFrames_124 (by decide) (fun c_17 => ?_) (fun c_17 => ?_)
                · skip
                  have c_17 := bI_f c_17
                  refine lv_iconst (v := 1) hx hb dX2_byFrames_137 (by decide) ?_
                  refine lv_iload hx hb dX2_byFrames_138 (lv_at hl 1 rfl) ?_
                  refine lv_iadd hx hb dX2_byFrames_140 ?_
                  refine lv_topi (fun v_18 ev_18 => ?_)
                  obtain rfl : v_18 = nI (1 + t) := ev_18.trans (nadd (a := 1) (b := t) rfl f1)
                  clear ev_18
                  exact m_iret X hr hlk hw hS (Nat.le_of_ble_eq_true rfl) (Nat.le_of_ble_eq_true rfl) ⟨rfl, _, rfl, (CInv.putP (a := 0) (b := 8) (q := (h_13, d_13)) hI pO8 (by show d_13 ≤ 8; omega)), (hk.putP (a := 0) (b := 8) (q := (h_13, d_13)) (by omega))⟩ dX2_byFrames_141
                · skip
                  have c_17 := bI_t c_17
                  refine lv_aload_n hx hb dX2_byFrames_127 rfl (lv_at hl 4 rfl) ?_
                  refine lv_aload_n hx hb dX2_byFrames_128 rfl (lv_at hl 6 rfl) ?_
                  refine lv_iload hx hb dX2_byFrames_129 (lv_at hl 1 rfl) ?_
                  refine m_calli (m_runV (i := nm 0 3) (ci := 2) (As := [.ref (L (nm (cm + 2) 0)), .int j]) (rest := []) X (k_X2_handlersFit Γ l L (sP (tS (tS (sP y 1 (2 * t) (g_12, dd)) 0 7 1 v_13) 0 7 2 w_13) 0 8 (h_13, d_13)) cm t j (CInv.putP (a := 0) (b := 8) (q := (h_13, d_13)) hI pO8 (by show d_13 ≤ 8; omega)) (hk.lt hm) (by omega) f1) v_X2_handlersFit ml_X2_84 hw hS rfl rfl rfl rfl hl.1 ⟨Nat.le_of_ble_eq_true rfl, Nat.le_of_ble_eq_true rfl⟩ (Nat.le_of_ble_eq_true rfl) ⟨Nat.le_of_ble_eq_true rfl, Nat.le_of_ble_eq_true rfl⟩ dX2_byFrames_131) hS (fun r_19 L1 M1 H locs hp_19 hw hS => ?_)
                  obtain ⟨⟨t_19, rfl⟩, ⟨h_19, d_19⟩, hd_19, e1, e2⟩ := hp_19
                  have hd_19 : d_19 ≤ 8 := hd_19
                  rw [e1, e2, sP_sPo (by decide)] at hw; clear e1 e2
                  have hI := CInv.putP (a := 0) (b := 5) (q := (h_19, d_19)) hI pO5 hd_19
                  have hk := hk.putP (a := 0) (b := 5) (q := (h_19, d_19)) (by omega)
                  refine lv_if_ne (tgt := 142) hx hb dX2_byFrames_134 (by decide) (fun c_20 => ?_) (fun c_20 => ?_)
                  · skip
                    have c_20 := bI_t c_20
                    refine lv_aload_n hx hb dX2_byFrames_142 rfl (lv_at hl 4 rfl) ?_
                    refine s_get (a := 0) (b := 3) (ci := 2) X hw rfl rfl gX2 2 (by decide) fl_X2_27 rfl rfl dX2_byFrames_143 ?_
                    refine s_get (a := 0) (b := 7) (ci := 6) X hw rfl rfl gX8 2 (by decide) fl_X2_88 rfl rfl dX2_byFrames_146 ?_
                    refine lv_istore (lv' := [(4, .int ((sP (sP (tS (tS (sP y 1 (2 * t) (g_12, dd)) 0 7 1 v_13) 0 7 2 w_13) 0 5 (h_19, d_19)) 0 8 (h_13, d_13)).1 0 7 2)), (6, .null), (5, .int j), (3, .ref (L (nm 0 8))), (0, .ref (L (nm 0 3))), (1, .ref (L (nm 0 1))), (2, .ref (L (nm (cm + 2) 0)))]) hx hb dX2_byFrames_149 hl (by decide) rfl (fun ls hl => ?_)
                    refine lv_iinc (v := j + 1) (lv' := [(5, .int (j + 1)), (4, .int ((sP (sP (tS (tS (sP y 1 (2 * t) (g_12, dd)) 0 7 1 v_13) 0 7 2 w_13) 0 5 (h_19, d_19)) 0 8 (h_13, d_13)).1 0 7 2)), (6, .null), (3, .ref (L (nm 0 8))), (0, .ref (L (nm 0 3))), (1, .ref (L (nm 0 1))), (2, .ref (L (nm (cm + 2) 0)))]) hx hb dX2_byFrames_151 hl (k := 2) rfl rfl (by decide) rfl (fun ls hl => ?_)
                    refine lv_goto (tgt := 27) hx hb dX2_byFrames_154 (by decide) ?_
                    exact (by omega : False).elim
                  · skip
                    have c_20 := bI_f c_20
                    refine lv_iconst (v := 1) hx hb dX2_byFrames_137 (by decide) ?_
                    refine lv_iload hx hb dX2_byFrames_138 (lv_at hl 1 rfl) ?_
                    refine lv_iadd hx hb dX2_byFrames_140 ?_
                    refine lv_topi (fun v_21 ev_21 => ?_)
                    obtain rfl : v_21 = nI (1 + t) := ev_21.trans (nadd (a := 1) (b := t) rfl f1)
                    clear ev_21
                    exact m_iret X hr hlk hw hS (Nat.le_of_ble_eq_true rfl) (Nat.le_of_ble_eq_true rfl) ⟨rfl, _, rfl, (CInv.putP (a := 0) (b := 8) (q := (h_13, d_13)) hI pO8 (by show d_13 ≤ 8; omega)), (hk.putP (a := 0) (b := 8) (q := (h_13, d_13)) (by omega))⟩ dX2_byFrames_141
            · skip
              refine lv_goto (tgt := 78) hx hb dX2_byFrames_61 (by decide) ?_
              refine lv_iconst (v := 1) hx hb dX2_byFrames_78 (by decide) ?_
              refine lv_iload hx hb dX2_byFrames_79 (lv_at hl 1 rfl) ?_
              refine lv_iadd hx hb dX2_byFrames_81 ?_
              refine lv_topi (fun v_22 ev_22 => ?_)
              obtain rfl : v_22 = nI (1 + t) := ev_22.trans (nadd (a := 1) (b := t) rfl f1)
              clear ev_22
              exact m_iret X hr hlk hw hS (Nat.le_of_ble_eq_true rfl) (Nat.le_of_ble_eq_true rfl) ⟨rfl, _, rfl, (CInv.putP (a := 0) (b := 8) (q := (g, dd)) hI pO8 (by show dd ≤ 8; omega)), (hk.putP (a := 0) (b := 8) (q := (g, dd)) (by omega))⟩ dX2_byFrames_82
          · skip
            refine va_rf_some ?_
            refine lv_astore (lv' := [(6, .ref (L (nm (cm + 2) (2 * i_10 + 8)))), (5, .int j), (4, .int z), (3, .ref (L (nm 0 8))), (0, .ref (L (nm 0 3))), (1, .ref (L (nm 0 1))), (2, .ref (L (nm (cm + 2) 0)))]) hx hb dX2_byFrames_49 hl (by decide) rfl (fun ls hl => ?_)
            refine lv_aload hx hb dX2_byFrames_51 (lv_at hl 0 rfl) ?_
            refine lv_ifnonnull (tgt := 64) hx hb dX2_byFrames_53 (by decide) ?_
            refine lv_iload hx hb dX2_byFrames_64 (lv_at hl 2 rfl) ?_
            refine lv_if_eq (tgt := 83) hx hb dX2_byFrames_66 (by decide) (fun c_23 => ?_) (fun c_23 => ?_)
            · skip
              refine lv_aload hx hb dX2_byFrames_83 (lv_at hl 0 rfl) ?_
              refine lv_ifnull hx hb dX2_byFrames_85 ?_
              refine lv_aload_n hx hb dX2_byFrames_88 rfl (lv_at hl 3 rfl) ?_
              refine lv_aload hx hb dX2_byFrames_89 (lv_at hl 0 rfl) ?_
              refine m_callv (m_runV (i := nm 0 8) (ci := 4) (As := [.ref (L (nm (cm + 2) (2 * i_10 + 8)))]) (rest := []) X (k_X6_copyFrom Γ l L (sP y 0 8 (g, dd)) 0 8 (cm + 2) (2 * i_10 + 8) pO8 (pOF (hk.lt hm) hi_10 hf_10)) v_X6_copyFrom ml_X2_72 hw hS (p_obj Γ L (c := sP y 0 8 (g, dd)) pO8) rfl rfl rfl hl.1 ⟨Nat.le_of_ble_eq_true rfl, Nat.le_of_ble_eq_true rfl⟩ (Nat.le_of_ble_eq_true rfl) ⟨Nat.le_of_ble_eq_true rfl, Nat.le_of_ble_eq_true rfl⟩ dX2_byFrames_91) hS (fun L1 M1 H locs hp_24 hw hS => ?_)
              obtain ⟨e1, e2⟩ := hp_24
              rw [e1, e2] at hw; clear e1 e2
              obtain ⟨g_24, eg_24⟩ : ∃ gz : Nat → Int32, gz = cpy16 ((sP y 0 8 (g, dd)).2.1 (cm + 2) (2 * i_10 + 8 + 1)) ((sP y 0 8 (g, dd)).2.1 0 (8 + 1)) := ⟨_, rfl⟩
              rw [← eg_24] at hw
              rw [ed_10, sP_tVs, sP_tS] at hw
              have hw : mW Γ.1 vwCl A L (cM Γ L (sP y 0 8 (g_24, d_10))) H := hw
              refine lv_aload_n hx hb dX2_byFrames_94 rfl (lv_at hl 4 rfl) ?_
              refine s_get (a := 0) (b := 3) (ci := 2) X hw rfl rfl gX2 0 (by decide) fl_X2_13 rfl rfl dX2_byFrames_95 ?_
              refine lv_iload hx hb dX2_byFrames_98 (lv_at hl 1 rfl) ?_
              refine s_aaldS (a := 0) (b := 4) (n := 40) (k := t) (t := 4) (q := L (nm 1 (2 * t))) X hw rfl rfl f1 (by omega) (by decide) (if_pos (show t < 40 by omega)) dX2_byFrames_100 ?_
              refine lv_aload_n hx hb dX2_byFrames_101 rfl (lv_at hl 3 rfl) ?_
              refine m_callv (m_runV (i := nm 1 (2 * t)) (ci := 4) (As := [.ref (L (nm 0 8))]) (rest := []) X (k_X6_copyFrom Γ l L (sP y 0 8 (g_24, d_10)) 1 (2 * t) 0 8 (pO1 (show t < 40 by omega)) pO8) v_X6_copyFrom ml_X2_72 hw hS (p_obj Γ L (c := sP y 0 8 (g_24, d_10)) (pO1 (show t < 40 by omega))) rfl rfl rfl hl.1 ⟨Nat.le_of_ble_eq_true rfl, Nat.le_of_ble_eq_true rfl⟩ (Nat.le_of_ble_eq_true rfl) ⟨Nat.le_of_ble_eq_true rfl, Nat.le_of_ble_eq_true rfl⟩ dX2_byFrames_102) hS (fun L1 M1 H locs hp_25 hw hS => ?_)
              obtain ⟨e1, e2⟩ := hp_25
              rw [e1, e2] at hw; clear e1 e2
              obtain ⟨g_25, eg_25⟩ : ∃ gz : Nat → Int32, gz = cpy16 ((sP y 0 8 (g_24, d_10)).2.1 0 (8 + 1)) ((sP y 0 8 (g_24, d_10)).2.1 1 (2 * t + 1)) := ⟨_, rfl⟩
              rw [← eg_25] at hw
              rw [sP_dep, sP_tVso (by omega), sP_tSo (by omega)] at hw
              have hw : mW Γ.1 vwCl A L (cM Γ L (sP (sP y 1 (2 * t) (g_25, d_10)) 0 8 (g_24, d_10))) H := hw
              have hI := CInv.putP (a := 1) (b := 2 * t) (q := (g_25, d_10)) hI (pO1 (show t < 40 by omega)) (by show d_10 ≤ 8; omega)
              have hk := hk.putP (a := 1) (b := 2 * t) (q := (g_25, d_10)) (by omega)
              refine lv_aload_n hx hb dX2_byFrames_105 rfl (lv_at hl 4 rfl) ?_
              refine s_get (a := 0) (b := 3) (ci := 2) X hw rfl rfl gX2 2 (by decide) fl_X2_27 rfl rfl dX2_byFrames_106 ?_
              refine lv_aload_n hx hb dX2_byFrames_109 rfl (lv_at hl 5 rfl) ?_
              refine lv_aload_n hx hb dX2_byFrames_110 rfl (lv_at hl 6 rfl) ?_
              refine lv_iload hx hb dX2_byFrames_111 (lv_at hl 1 rfl) ?_
              refine m_calli (m_runV (i := nm 0 7) (ci := 6) (As := [.ref (L (nm 0 1)), .ref (L (nm (cm + 2) 0)), .int j]) (rest := []) X (k_X8_does Γ l L (sP y 1 (2 * t) (g_25, d_10)) g_24 d_10 cm j (by omega) hI (hk.lt hm)) v_X8_does ml_X2_76 hw hS rfl rfl rfl rfl hl.1 ⟨Nat.le_of_ble_eq_true rfl, Nat.le_of_ble_eq_true rfl⟩ (Nat.le_of_ble_eq_true rfl) ⟨Nat.le_of_ble_eq_true rfl, Nat.le_of_ble_eq_true rfl⟩ dX2_byFrames_113) hS (fun r_26 L1 M1 H locs hp_26 hw hS => ?_)
              obtain ⟨⟨t_26, rfl⟩, e1, v_26, w_26, ⟨h_26, d_26⟩, hd_26, e2⟩ := hp_26
              have hd_26 : d_26 ≤ 8 := hd_26
              rw [e1, e2] at hw; clear e1 e2
              have hI := (hI.free (b := 7) (k := 1) (v := v_26) (by decide)).free (b := 7) (k := 2) (v := w_26) (by decide)
              have hk := (hk.putS (a := 0) (b := 7) (k := 1) (v := v_26) (by omega)).putS (a := 0) (b := 7) (k := 2) (v := w_26) (by omega)
              refine lv_if_eq (tgt := 137) hx hb dX2_byFrames_116 (by decide) (fun c_27 => ?_) (fun c_27 => ?_)
              · skip
                have c_27 := bI_f c_27
                refine lv_iconst (v := 1) hx hb dX2_byFrames_137 (by decide) ?_
                refine lv_iload hx hb dX2_byFrames_138 (lv_at hl 1 rfl) ?_
                refine lv_iadd hx hb dX2_byFrames_140 ?_
                refine lv_topi (fun v_28 ev_28 => ?_)
                obtain rfl : v_28 = nI (1 + t) := ev_28.trans (nadd (a := 1) (b := t) rfl f1)
                clear ev_28
                exact m_iret X hr hlk hw hS (Nat.le_of_ble_eq_true rfl) (Nat.le_of_ble_eq_true rfl) ⟨rfl, _, rfl, (CInv.putP (a := 0) (b := 8) (q := (h_26, d_26)) hI pO8 (by show d_26 ≤ 8; omega)), (hk.putP (a := 0) (b := 8) (q := (h_26, d_26)) (by omega))⟩ dX2_byFrames_141
              · skip
                have c_27 := bI_t c_27
                refine lv_aload_n hx hb dX2_byFrames_119 rfl (lv_at hl 4 rfl) ?_
                refine lv_aload_n hx hb dX2_byFrames_120 rfl (lv_at hl 6 rfl) ?_
                refine m_calli (m_runV (i := nm 0 3) (ci := 2) (As := [.ref (L (nm (cm + 2) 0))]) (rest := []) X (k_X2_leadsToFrame Γ l L (sP (tS (tS (sP y 1 (2 * t) (g_25, d_10)) 0 7 1 v_26) 0 7 2 w_26) 0 8 (h_26, d_26)) cm (CInv.putP (a := 0) (b := 8) (q := (h_26, d_26)) hI pO8 (by show d_26 ≤ 8; omega)) (hk.lt hm)) v_X2_leadsToFrame ml_X2_80 hw hS rfl rfl rfl rfl hl.1 ⟨Nat.le_of_ble_eq_true rfl, Nat.le_of_ble_eq_true rfl⟩ (Nat.le_of_ble_eq_true rfl) ⟨Nat.le_of_ble_eq_true rfl, Nat.le_of_ble_eq_true rfl⟩ dX2_byFrames_121) hS (fun r_29 L1 M1 H locs hp_29 hw hS => ?_)
                obtain ⟨⟨t_29, rfl⟩, e1, e2⟩ := hp_29
                rw [e1, e2] at hw; clear e1 e2
                refine lv_if_eq (tgt := 137) hx hb dX2_byFrames_124 (by decide) (fun c_30 => ?_) (fun c_30 => ?_)
                · skip
                  have c_30 := bI_f c_30
                  refine lv_iconst (v := 1) hx hb dX2_byFrames_137 (by decide) ?_
                  refine lv_iload hx hb dX2_byFrames_138 (lv_at hl 1 rfl) ?_
                  refine lv_iadd hx hb dX2_byFrames_140 ?_
                  refine lv_topi (fun v_31 ev_31 => ?_)
                  obtain rfl : v_31 = nI (1 + t) := ev_31.trans (nadd (a := 1) (b := t) rfl f1)
                  clear ev_31
                  exact m_iret X hr hlk hw hS (Nat.le_of_ble_eq_true rfl) (Nat.le_of_ble_eq_true rfl) ⟨rfl, _, rfl, (CInv.putP (a := 0) (b := 8) (q := (h_26, d_26)) hI pO8 (by show d_26 ≤ 8; omega)), (hk.putP (a := 0) (b := 8) (q := (h_26, d_26)) (by omega))⟩ dX2_byFrames_141
                · skip
                  have c_30 := bI_t c_30
                  refine lv_aload_n hx hb dX2_byFrames_127 rfl (lv_at hl 4 rfl) ?_
                  refine lv_aload_n hx hb dX2_byFrames_128 rfl (lv_at hl 6 rfl) ?_
                  refine lv_iload hx hb dX2_byFrames_129 (lv_at hl 1 rfl) ?_
                  refine m_calli (m_runV (i := nm 0 3) (ci := 2) (As := [.ref (L (nm (cm + 2) 0)), .int j]) (rest := []) X (k_X2_handlersFit Γ l L (sP (tS (tS (sP y 1 (2 * t) (g_25, d_10)) 0 7 1 v_26) 0 7 2 w_26) 0 8 (h_26, d_26)) cm t j (CInv.putP (a := 0) (b := 8) (q := (h_26, d_26)) hI pO8 (by show d_26 ≤ 8; omega)) (hk.lt hm) (by omega) f1) v_X2_handlersFit ml_X2_84 hw hS rfl rfl rfl rfl hl.1 ⟨Nat.le_of_ble_eq_true rfl, Nat.le_of_ble_eq_true rfl⟩ (Nat.le_of_ble_eq_true rfl) ⟨Nat.le_of_ble_eq_true rfl, Nat.le_of_ble_eq_true rfl⟩ dX2_byFrames_131) hS (fun r_32 L1 M1 H locs hp_32 hw hS => ?_)
                  obtain ⟨⟨t_32, rfl⟩, ⟨h_32, d_32⟩, hd_32, e1, e2⟩ := hp_32
                  have hd_32 : d_32 ≤ 8 := hd_32
                  rw [e1, e2, sP_sPo (by decide)] at hw; clear e1 e2
                  have hI := CInv.putP (a := 0) (b := 5) (q := (h_32, d_32)) hI pO5 hd_32
                  have hk := hk.putP (a := 0) (b := 5) (q := (h_32, d_32)) (by omega)
                  refine lv_if_ne (tgt := 142) hx hb dX2_byFrames_134 (by decide) (fun c_33 => ?_) (fun c_33 => ?_)
                  · skip
                    have c_33 := bI_t c_33
                    refine lv_aload_n hx hb dX2_byFrames_142 rfl (lv_at hl 4 rfl) ?_
                    refine s_get (a := 0) (b := 3) (ci := 2) X hw rfl rfl gX2 2 (by decide) fl_X2_27 rfl rfl dX2_byFrames_143 ?_
                    refine s_get (a := 0) (b := 7) (ci := 6) X hw rfl rfl gX8 2 (by decide) fl_X2_88 rfl rfl dX2_byFrames_146 ?_
                    refine lv_istore (lv' := [(4, .int ((sP (sP (tS (tS (sP y 1 (2 * t) (g_25, d_10)) 0 7 1 v_26) 0 7 2 w_26) 0 5 (h_32, d_32)) 0 8 (h_26, d_26)).1 0 7 2)), (6, .ref (L (nm (cm + 2) (2 * i_10 + 8)))), (5, .int j), (3, .ref (L (nm 0 8))), (0, .ref (L (nm 0 3))), (1, .ref (L (nm 0 1))), (2, .ref (L (nm (cm + 2) 0)))]) hx hb dX2_byFrames_149 hl (by decide) rfl (fun ls hl => ?_)
                    refine lv_iinc (v := j + 1) (lv' := [(5, .int (j + 1)), (4, .int ((sP (sP (tS (tS (sP y 1 (2 * t) (g_25, d_10)) 0 7 1 v_26) 0 7 2 w_26) 0 5 (h_32, d_32)) 0 8 (h_26, d_26)).1 0 7 2)), (6, .ref (L (nm (cm + 2) (2 * i_10 + 8)))), (3, .ref (L (nm 0 8))), (0, .ref (L (nm 0 3))), (1, .ref (L (nm 0 1))), (2, .ref (L (nm (cm + 2) 0)))]) hx hb dX2_byFrames_151 hl (k := 2) rfl rfl (by decide) rfl (fun ls hl => ?_)
                    refine lv_goto (tgt := 27) hx hb dX2_byFrames_154 (by decide) ?_
                    exact (by omega : False).elim
                  · skip
                    have c_33 := bI_f c_33
                    refine lv_iconst (v := 1) hx hb dX2_byFrames_137 (by decide) ?_
                    refine lv_iload hx hb dX2_byFrames_138 (lv_at hl 1 rfl) ?_
                    refine lv_iadd hx hb dX2_byFrames_140 ?_
                    refine lv_topi (fun v_34 ev_34 => ?_)
                    obtain rfl : v_34 = nI (1 + t) := ev_34.trans (nadd (a := 1) (b := t) rfl f1)
                    clear ev_34
                    exact m_iret X hr hlk hw hS (Nat.le_of_ble_eq_true rfl) (Nat.le_of_ble_eq_true rfl) ⟨rfl, _, rfl, (CInv.putP (a := 0) (b := 8) (q := (h_26, d_26)) hI pO8 (by show d_26 ≤ 8; omega)), (hk.putP (a := 0) (b := 8) (q := (h_26, d_26)) (by omega))⟩ dX2_byFrames_141
            · skip
              refine lv_aload_n hx hb dX2_byFrames_69 rfl (lv_at hl 3 rfl) ?_
              refine lv_aload hx hb dX2_byFrames_70 (lv_at hl 0 rfl) ?_
              refine m_calli (m_runV (i := nm 0 8) (ci := 4) (As := [.ref (L (nm (cm + 2) (2 * i_10 + 8)))]) (rest := []) X (k_X6_goesTo Γ l L (sP y 0 8 (g, dd)) 0 8 (cm + 2) (2 * i_10 + 8) pO8 (pOF (hk.lt hm) hi_10 hf_10)) v_X6_goesTo ml_X2_68 hw hS (p_obj Γ L (c := sP y 0 8 (g, dd)) pO8) rfl rfl rfl hl.1 ⟨Nat.le_of_ble_eq_true rfl, Nat.le_of_ble_eq_true rfl⟩ (Nat.le_of_ble_eq_true rfl) ⟨Nat.le_of_ble_eq_true rfl, Nat.le_of_ble_eq_true rfl⟩ dX2_byFrames_72) hS (fun r_35 L1 M1 H locs hp_35 hw hS => ?_)
              obtain ⟨⟨t_35, rfl⟩, e1, e2⟩ := hp_35
              rw [e1, e2] at hw; clear e1 e2
              refine lv_if_ne (tgt := 83) hx hb dX2_byFrames_75 (by decide) (fun c_36 => ?_) (fun c_36 => ?_)
              · skip
                have c_36 := bI_t c_36
                refine lv_aload hx hb dX2_byFrames_83 (lv_at hl 0 rfl) ?_
                refine lv_ifnull hx hb dX2_byFrames_85 ?_
                refine lv_aload_n hx hb dX2_byFrames_88 rfl (lv_at hl 3 rfl) ?_
                refine lv_aload hx hb dX2_byFrames_89 (lv_at hl 0 rfl) ?_
                refine m_callv (m_runV (i := nm 0 8) (ci := 4) (As := [.ref (L (nm (cm + 2) (2 * i_10 + 8)))]) (rest := []) X (k_X6_copyFrom Γ l L (sP y 0 8 (g, dd)) 0 8 (cm + 2) (2 * i_10 + 8) pO8 (pOF (hk.lt hm) hi_10 hf_10)) v_X6_copyFrom ml_X2_72 hw hS (p_obj Γ L (c := sP y 0 8 (g, dd)) pO8) rfl rfl rfl hl.1 ⟨Nat.le_of_ble_eq_true rfl, Nat.le_of_ble_eq_true rfl⟩ (Nat.le_of_ble_eq_true rfl) ⟨Nat.le_of_ble_eq_true rfl, Nat.le_of_ble_eq_true rfl⟩ dX2_byFrames_91) hS (fun L1 M1 H locs hp_37 hw hS => ?_)
                obtain ⟨e1, e2⟩ := hp_37
                rw [e1, e2] at hw; clear e1 e2
                obtain ⟨g_37, eg_37⟩ : ∃ gz : Nat → Int32, gz = cpy16 ((sP y 0 8 (g, dd)).2.1 (cm + 2) (2 * i_10 + 8 + 1)) ((sP y 0 8 (g, dd)).2.1 0 (8 + 1)) := ⟨_, rfl⟩
                rw [← eg_37] at hw
                rw [ed_10, sP_tVs, sP_tS] at hw
                have hw : mW Γ.1 vwCl A L (cM Γ L (sP y 0 8 (g_37, d_10))) H := hw
                refine lv_aload_n hx hb dX2_byFrames_94 rfl (lv_at hl 4 rfl) ?_
                refine s_get (a := 0) (b := 3) (ci := 2) X hw rfl rfl gX2 0 (by decide) fl_X2_13 rfl rfl dX2_byFrames_95 ?_
                refine lv_iload hx hb dX2_byFrames_98 (lv_at hl 1 rfl) ?_
                refine s_aaldS (a := 0) (b := 4) (n := 40) (k := t) (t := 4) (q := L (nm 1 (2 * t))) X hw rfl rfl f1 (by omega) (by decide) (if_pos (show t < 40 by omega)) dX2_byFrames_100 ?_
                refine lv_aload_n hx hb dX2_byFrames_101 rfl (lv_at hl 3 rfl) ?_
                refine m_callv (m_runV (i := nm 1 (2 * t)) (ci := 4) (As := [.ref (L (nm 0 8))]) (rest := []) X (k_X6_copyFrom Γ l L (sP y 0 8 (g_37, d_10)) 1 (2 * t) 0 8 (pO1 (show t < 40 by omega)) pO8) v_X6_copyFrom ml_X2_72 hw hS (p_obj Γ L (c := sP y 0 8 (g_37, d_10)) (pO1 (show t < 40 by omega))) rfl rfl rfl hl.1 ⟨Nat.le_of_ble_eq_true rfl, Nat.le_of_ble_eq_true rfl⟩ (Nat.le_of_ble_eq_true rfl) ⟨Nat.le_of_ble_eq_true rfl, Nat.le_of_ble_eq_true rfl⟩ dX2_byFrames_102) hS (fun L1 M1 H locs hp_38 hw hS => ?_)
                obtain ⟨e1, e2⟩ := hp_38
                rw [e1, e2] at hw; clear e1 e2
                obtain ⟨g_38, eg_38⟩ : ∃ gz : Nat → Int32, gz = cpy16 ((sP y 0 8 (g_37, d_10)).2.1 0 (8 + 1)) ((sP y 0 8 (g_37, d_10)).2.1 1 (2 * t + 1)) := ⟨_, rfl⟩
                rw [← eg_38] at hw
                rw [sP_dep, sP_tVso (by omega), sP_tSo (by omega)] at hw
                have hw : mW Γ.1 vwCl A L (cM Γ L (sP (sP y 1 (2 * t) (g_38, d_10)) 0 8 (g_37, d_10))) H := hw
                have hI := CInv.putP (a := 1) (b := 2 * t) (q := (g_38, d_10)) hI (pO1 (show t < 40 by omega)) (by show d_10 ≤ 8; omega)
                have hk := hk.putP (a := 1) (b := 2 * t) (q := (g_38, d_10)) (by omega)
                refine lv_aload_n hx hb dX2_byFrames_105 rfl (lv_at hl 4 rfl) ?_
                refine s_get (a := 0) (b := 3) (ci := 2) X hw rfl rfl gX2 2 (by decide) fl_X2_27 rfl rfl dX2_byFrames_106 ?_
                refine lv_aload_n hx hb dX2_byFrames_109 rfl (lv_at hl 5 rfl) ?_
                refine lv_aload_n hx hb dX2_byFrames_110 rfl (lv_at hl 6 rfl) ?_
                refine lv_iload hx hb dX2_byFrames_111 (lv_at hl 1 rfl) ?_
                refine m_calli (m_runV (i := nm 0 7) (ci := 6) (As := [.ref (L (nm 0 1)), .ref (L (nm (cm + 2) 0)), .int j]) (rest := []) X (k_X8_does Γ l L (sP y 1 (2 * t) (g_38, d_10)) g_37 d_10 cm j (by omega) hI (hk.lt hm)) v_X8_does ml_X2_76 hw hS rfl rfl rfl rfl hl.1 ⟨Nat.le_of_ble_eq_true rfl, Nat.le_of_ble_eq_true rfl⟩ (Nat.le_of_ble_eq_true rfl) ⟨Nat.le_of_ble_eq_true rfl, Nat.le_of_ble_eq_true rfl⟩ dX2_byFrames_113) hS (fun r_39 L1 M1 H locs hp_39 hw hS => ?_)
                obtain ⟨⟨t_39, rfl⟩, e1, v_39, w_39, ⟨h_39, d_39⟩, hd_39, e2⟩ := hp_39
                have hd_39 : d_39 ≤ 8 := hd_39
                rw [e1, e2] at hw; clear e1 e2
                have hI := (hI.free (b := 7) (k := 1) (v := v_39) (by decide)).free (b := 7) (k := 2) (v := w_39) (by decide)
                have hk := (hk.putS (a := 0) (b := 7) (k := 1) (v := v_39) (by omega)).putS (a := 0) (b := 7) (k := 2) (v := w_39) (by omega)
                refine lv_if_eq (tgt := 137) hx hb dX2_byFrames_116 (by decide) (fun c_40 => ?_) (fun c_40 => ?_)
                · skip
                  have c_40 := bI_f c_40
                  refine lv_iconst (v := 1) hx hb dX2_byFrames_137 (by decide) ?_
                  refine lv_iload hx hb dX2_byFrames_138 (lv_at hl 1 rfl) ?_
                  refine lv_iadd hx hb dX2_byFrames_140 ?_
                  refine lv_topi (fun v_41 ev_41 => ?_)
                  obtain rfl : v_41 = nI (1 + t) := ev_41.trans (nadd (a := 1) (b := t) rfl f1)
                  clear ev_41
                  exact m_iret X hr hlk hw hS (Nat.le_of_ble_eq_true rfl) (Nat.le_of_ble_eq_true rfl) ⟨rfl, _, rfl, (CInv.putP (a := 0) (b := 8) (q := (h_39, d_39)) hI pO8 (by show d_39 ≤ 8; omega)), (hk.putP (a := 0) (b := 8) (q := (h_39, d_39)) (by omega))⟩ dX2_byFrames_141
                · skip
                  have c_40 := bI_t c_40
                  refine lv_aload_n hx hb dX2_byFrames_119 rfl (lv_at hl 4 rfl) ?_
                  refine lv_aload_n hx hb dX2_byFrames_120 rfl (lv_at hl 6 rfl) ?_
                  refine m_calli (m_runV (i := nm 0 3) (ci := 2) (As := [.ref (L (nm (cm + 2) 0))]) (rest := []) X (k_X2_leadsToFrame Γ l L (sP (tS (tS (sP y 1 (2 * t) (g_38, d_10)) 0 7 1 v_39) 0 7 2 w_39) 0 8 (h_39, d_39)) cm (CInv.putP (a := 0) (b := 8) (q := (h_39, d_39)) hI pO8 (by show d_39 ≤ 8; omega)) (hk.lt hm)) v_X2_leadsToFrame ml_X2_80 hw hS rfl rfl rfl rfl hl.1 ⟨Nat.le_of_ble_eq_true rfl, Nat.le_of_ble_eq_true rfl⟩ (Nat.le_of_ble_eq_true rfl) ⟨Nat.le_of_ble_eq_true rfl, Nat.le_of_ble_eq_true rfl⟩ dX2_byFrames_121) hS (fun r_42 L1 M1 H locs hp_42 hw hS => ?_)
                  obtain ⟨⟨t_42, rfl⟩, e1, e2⟩ := hp_42
                  rw [e1, e2] at hw; clear e1 e2
                  refine lv_if_eq (tgt := 137) hx hb dX2_byFrames_124 (by decide) (fun c_43 => ?_) (fun c_43 => ?_)
                  · skip
                    have c_43 := bI_f c_43
                    refine lv_iconst (v := 1) hx hb dX2_byFrames_137 (by decide) ?_
                    refine lv_iload hx hb dX2_byFrames_138 (lv_at hl 1 rfl) ?_
                    refine lv_iadd hx hb dX2_byFrames_140 ?_
                    refine lv_topi (fun v_44 ev_44 => ?_)
                    obtain rfl : v_44 = nI (1 + t) := ev_44.trans (nadd (a := 1) (b := t) rfl f1)
                    clear ev_44
                    exact m_iret X hr hlk hw hS (Nat.le_of_ble_eq_true rfl) (Nat.le_of_ble_eq_true rfl) ⟨rfl, _, rfl, (CInv.putP (a := 0) (b := 8) (q := (h_39, d_39)) hI pO8 (by show d_39 ≤ 8; omega)), (hk.putP (a := 0) (b := 8) (q := (h_39, d_39)) (by omega))⟩ dX2_byFrames_141
                  · skip
                    have c_43 := bI_t c_43
                    refine lv_aload_n hx hb dX2_byFrames_127 rfl (lv_at hl 4 rfl) ?_
                    refine lv_aload_n hx hb dX2_byFrames_128 rfl (lv_at hl 6 rfl) ?_
                    refine lv_iload hx hb dX2_byFrames_129 (lv_at hl 1 rfl) ?_
                    refine m_calli (m_runV (i := nm 0 3) (ci := 2) (As := [.ref (L (nm (cm + 2) 0)), .int j]) (rest := []) X (k_X2_handlersFit Γ l L (sP (tS (tS (sP y 1 (2 * t) (g_38, d_10)) 0 7 1 v_39) 0 7 2 w_39) 0 8 (h_39, d_39)) cm t j (CInv.putP (a := 0) (b := 8) (q := (h_39, d_39)) hI pO8 (by show d_39 ≤ 8; omega)) (hk.lt hm) (by omega) f1) v_X2_handlersFit ml_X2_84 hw hS rfl rfl rfl rfl hl.1 ⟨Nat.le_of_ble_eq_true rfl, Nat.le_of_ble_eq_true rfl⟩ (Nat.le_of_ble_eq_true rfl) ⟨Nat.le_of_ble_eq_true rfl, Nat.le_of_ble_eq_true rfl⟩ dX2_byFrames_131) hS (fun r_45 L1 M1 H locs hp_45 hw hS => ?_)
                    obtain ⟨⟨t_45, rfl⟩, ⟨h_45, d_45⟩, hd_45, e1, e2⟩ := hp_45
                    have hd_45 : d_45 ≤ 8 := hd_45
                    rw [e1, e2, sP_sPo (by decide)] at hw; clear e1 e2
                    have hI := CInv.putP (a := 0) (b := 5) (q := (h_45, d_45)) hI pO5 hd_45
                    have hk := hk.putP (a := 0) (b := 5) (q := (h_45, d_45)) (by omega)
                    refine lv_if_ne (tgt := 142) hx hb dX2_byFrames_134 (by decide) (fun c_46 => ?_) (fun c_46 => ?_)
                    · skip
                      have c_46 := bI_t c_46
                      refine lv_aload_n hx hb dX2_byFrames_142 rfl (lv_at hl 4 rfl) ?_
                      refine s_get (a := 0) (b := 3) (ci := 2) X hw rfl rfl gX2 2 (by decide) fl_X2_27 rfl rfl dX2_byFrames_143 ?_
                      refine s_get (a := 0) (b := 7) (ci := 6) X hw rfl rfl gX8 2 (by decide) fl_X2_88 rfl rfl dX2_byFrames_146 ?_
                      refine lv_istore (lv' := [(4, .int ((sP (sP (tS (tS (sP y 1 (2 * t) (g_38, d_10)) 0 7 1 v_39) 0 7 2 w_39) 0 5 (h_45, d_45)) 0 8 (h_39, d_39)).1 0 7 2)), (6, .ref (L (nm (cm + 2) (2 * i_10 + 8)))), (5, .int j), (3, .ref (L (nm 0 8))), (0, .ref (L (nm 0 3))), (1, .ref (L (nm 0 1))), (2, .ref (L (nm (cm + 2) 0)))]) hx hb dX2_byFrames_149 hl (by decide) rfl (fun ls hl => ?_)
                      refine lv_iinc (v := j + 1) (lv' := [(5, .int (j + 1)), (4, .int ((sP (sP (tS (tS (sP y 1 (2 * t) (g_38, d_10)) 0 7 1 v_39) 0 7 2 w_39) 0 5 (h_45, d_45)) 0 8 (h_39, d_39)).1 0 7 2)), (6, .ref (L (nm (cm + 2) (2 * i_10 + 8)))), (3, .ref (L (nm 0 8))), (0, .ref (L (nm 0 3))), (1, .ref (L (nm 0 1))), (2, .ref (L (nm (cm + 2) 0)))]) hx hb dX2_byFrames_151 hl (k := 2) rfl rfl (by decide) rfl (fun ls hl => ?_)
                      refine lv_goto (tgt := 27) hx hb dX2_byFrames_154 (by decide) ?_
                      exact (by omega : False).elim
                    · skip
                      have c_46 := bI_f c_46
                      refine lv_iconst (v := 1) hx hb dX2_byFrames_137 (by decide) ?_
                      refine lv_iload hx hb dX2_byFrames_138 (lv_at hl 1 rfl) ?_
                      refine lv_iadd hx hb dX2_byFrames_140 ?_
                      refine lv_topi (fun v_47 ev_47 => ?_)
                      obtain rfl : v_47 = nI (1 + t) := ev_47.trans (nadd (a := 1) (b := t) rfl f1)
                      clear ev_47
                      exact m_iret X hr hlk hw hS (Nat.le_of_ble_eq_true rfl) (Nat.le_of_ble_eq_true rfl) ⟨rfl, _, rfl, (CInv.putP (a := 0) (b := 8) (q := (h_39, d_39)) hI pO8 (by show d_39 ≤ 8; omega)), (hk.putP (a := 0) (b := 8) (q := (h_39, d_39)) (by omega))⟩ dX2_byFrames_141
              · skip
                have c_36 := bI_f c_36
                refine lv_iconst (v := 1) hx hb dX2_byFrames_78 (by decide) ?_
                refine lv_iload hx hb dX2_byFrames_79 (lv_at hl 1 rfl) ?_
                refine lv_iadd hx hb dX2_byFrames_81 ?_
                refine lv_topi (fun v_48 ev_48 => ?_)
                obtain rfl : v_48 = nI (1 + t) := ev_48.trans (nadd (a := 1) (b := t) rfl f1)
                clear ev_48
                exact m_iret X hr hlk hw hS (Nat.le_of_ble_eq_true rfl) (Nat.le_of_ble_eq_true rfl) ⟨rfl, _, rfl, (CInv.putP (a := 0) (b := 8) (q := (g, dd)) hI pO8 (by show dd ≤ 8; omega)), (hk.putP (a := 0) (b := 8) (q := (g, dd)) (by omega))⟩ dX2_byFrames_82
    | succ n ih =>
      intro t j z y g dd H locs ls f0 f1 f2 f3 f4 hw hS hl
      have hI := f2
      have hk := f3
      refine lv_iload hx hb dX2_byFrames_27 (lv_at hl 0 rfl) ?_
      refine lv_aload_n hx hb dX2_byFrames_29 rfl (lv_at hl 5 rfl) ?_
      refine s_get (a := cm + 2) (b := 0) (ci := 0) X hw (c_cell (hk.lt hm) 0 _ _ _) rfl gX0 4 (by decide) fl_X2_44 rfl rfl dX2_byFrames_30 ?_
      obtain ⟨z_49, hz_49, ez_49⟩ := ((CInv.putP (a := 0) (b := 8) (q := (g, dd)) hI pO8 (by show dd ≤ 8; omega)).2.1 cm (hk.lt hm)).2.1
      refine lv_icmp_ge (tgt := 157) hx hb dX2_byFrames_33 (by decide) (fun c_50 => ?_) (fun c_50 => ?_)
      · skip
        have c_50n : t ≥ z_49 := ngeT (a := t) (b := z_49) f1 ez_49 (by omega) (by omega) c_50
        have c_50m : ¬ t < z_49 := by omega
        refine lv_iload hx hb dX2_byFrames_157 (lv_at hl 1 rfl) ?_
        refine lv_if_eq (tgt := 171) hx hb dX2_byFrames_159 (by decide) (fun c_51 => ?_) (fun c_51 => ?_)
        · skip
          refine lv_iconst (v := 0) hx hb dX2_byFrames_171 (by decide) ?_
          exact m_iret X hr hlk hw hS (Nat.le_of_ble_eq_true rfl) (Nat.le_of_ble_eq_true rfl) ⟨rfl, _, rfl, (CInv.putP (a := 0) (b := 8) (q := (g, dd)) hI pO8 (by show dd ≤ 8; omega)), (hk.putP (a := 0) (b := 8) (q := (g, dd)) (by omega))⟩ dX2_byFrames_172
        · skip
          refine lv_iconst (v := 1) hx hb dX2_byFrames_162 (by decide) ?_
          refine lv_aload_n hx hb dX2_byFrames_163 rfl (lv_at hl 5 rfl) ?_
          refine s_get (a := cm + 2) (b := 0) (ci := 0) X hw (c_cell (hk.lt hm) 0 _ _ _) rfl gX0 4 (by decide) fl_X2_44 rfl rfl dX2_byFrames_164 ?_
          obtain ⟨z_52, hz_52, ez_52⟩ := ((CInv.putP (a := 0) (b := 8) (q := (g, dd)) hI pO8 (by show dd ≤ 8; omega)).2.1 cm (hk.lt hm)).2.1
          refine lv_iadd hx hb dX2_byFrames_167 ?_
          refine lv_goto (tgt := 172) hx hb dX2_byFrames_168 (by decide) ?_
          refine lv_topi (fun v_53 ev_53 => ?_)
          obtain rfl : v_53 = nI (1 + z_52) := ev_53.trans (nadd (a := 1) (b := z_52) rfl ez_52)
          clear ev_53
          exact m_iret X hr hlk hw hS (Nat.le_of_ble_eq_true rfl) (Nat.le_of_ble_eq_true rfl) ⟨rfl, _, rfl, (CInv.putP (a := 0) (b := 8) (q := (g, dd)) hI pO8 (by show dd ≤ 8; omega)), (hk.putP (a := 0) (b := 8) (q := (g, dd)) (by omega))⟩ dX2_byFrames_172
      · skip
        have c_50n : ¬ t ≥ z_49 := ngeF (a := t) (b := z_49) f1 ez_49 (by omega) (by omega) c_50
        have c_50m : t < z_49 := by omega
        refine lv_iload hx hb dX2_byFrames_36 (lv_at hl 0 rfl) ?_
        refine lv_bipush (v := 40) hx hb dX2_byFrames_38 (by decide) ?_
        refine lv_icmp_ge (tgt := 157) hx hb dX2_byFrames_40 (by decide) (fun c_54 => ?_) (fun c_54 => ?_)
        · skip
          have c_54n : t ≥ 40 := ngeT (a := t) (b := 40) f1 rfl (by omega) (by omega) c_54
          have c_54m : ¬ t < 40 := by omega
          refine lv_iload hx hb dX2_byFrames_157 (lv_at hl 1 rfl) ?_
          refine lv_if_eq (tgt := 171) hx hb dX2_byFrames_159 (by decide) (fun c_55 => ?_) (fun c_55 => ?_)
          · skip
            refine lv_iconst (v := 0) hx hb dX2_byFrames_171 (by decide) ?_
            exact m_iret X hr hlk hw hS (Nat.le_of_ble_eq_true rfl) (Nat.le_of_ble_eq_true rfl) ⟨rfl, _, rfl, (CInv.putP (a := 0) (b := 8) (q := (g, dd)) hI pO8 (by show dd ≤ 8; omega)), (hk.putP (a := 0) (b := 8) (q := (g, dd)) (by omega))⟩ dX2_byFrames_172
          · skip
            refine lv_iconst (v := 1) hx hb dX2_byFrames_162 (by decide) ?_
            refine lv_aload_n hx hb dX2_byFrames_163 rfl (lv_at hl 5 rfl) ?_
            refine s_get (a := cm + 2) (b := 0) (ci := 0) X hw (c_cell (hk.lt hm) 0 _ _ _) rfl gX0 4 (by decide) fl_X2_44 rfl rfl dX2_byFrames_164 ?_
            obtain ⟨z_56, hz_56, ez_56⟩ := ((CInv.putP (a := 0) (b := 8) (q := (g, dd)) hI pO8 (by show dd ≤ 8; omega)).2.1 cm (hk.lt hm)).2.1
            refine lv_iadd hx hb dX2_byFrames_167 ?_
            refine lv_goto (tgt := 172) hx hb dX2_byFrames_168 (by decide) ?_
            refine lv_topi (fun v_57 ev_57 => ?_)
            obtain rfl : v_57 = nI (1 + z_56) := ev_57.trans (nadd (a := 1) (b := z_56) rfl ez_56)
            clear ev_57
            exact m_iret X hr hlk hw hS (Nat.le_of_ble_eq_true rfl) (Nat.le_of_ble_eq_true rfl) ⟨rfl, _, rfl, (CInv.putP (a := 0) (b := 8) (q := (g, dd)) hI pO8 (by show dd ≤ 8; omega)), (hk.putP (a := 0) (b := 8) (q := (g, dd)) (by omega))⟩ dX2_byFrames_172
        · skip
          have c_54n : ¬ t ≥ 40 := ngeF (a := t) (b := 40) f1 rfl (by omega) (by omega) c_54
          have c_54m : t < 40 := by omega
          refine lv_aload_n hx hb dX2_byFrames_43 rfl (lv_at hl 5 rfl) ?_
          refine lv_iload hx hb dX2_byFrames_44 (lv_at hl 0 rfl) ?_
          refine m_callq (m_runV (i := nm (cm + 2) 0) (ci := 0) (As := [.int j]) (rest := []) X (k_X0_frameOf Γ l L (sP y 0 8 (g, dd)) cm j (CInv.putP (a := 0) (b := 8) (q := (g, dd)) hI pO8 (by show dd ≤ 8; omega)) (hk.lt hm)) v_X0_frameOf ml_X2_64 hw hS (c_cell (hk.lt hm) 0 _ _ _) rfl rfl rfl hl.1 ⟨Nat.le_of_ble_eq_true rfl, Nat.le_of_ble_eq_true rfl⟩ (Nat.le_of_ble_eq_true rfl) ⟨Nat.le_of_ble_eq_true rfl, Nat.le_of_ble_eq_true rfl⟩ dX2_byFrames_46) hS (fun r_58 L1 M1 H locs hp_58 hw hS => ?_)
          obtain ⟨e1, e2, hq_58⟩ := hp_58
          rw [e1, e2] at hw; clear e1 e2
          rcases hq_58 with ⟨rfl, hno_58⟩ | ⟨i_58, d_58, hi_58, ei_58, hf_58, hd_58, ed_58, rfl⟩
          · skip
            refine va_rf_none ?_
            refine lv_astoreN (lv' := [(6, .null), (5, .int j), (4, .int z), (3, .ref (L (nm 0 8))), (0, .ref (L (nm 0 3))), (1, .ref (L (nm 0 1))), (2, .ref (L (nm (cm + 2) 0)))]) hx hb dX2_byFrames_49 hl (by decide) rfl (fun ls hl => ?_)
            refine lv_aloadN hx hb dX2_byFrames_51 (lv_at hl 0 rfl) ?_
            refine lv_ifnonnullN hx hb dX2_byFrames_53 ?_
            refine lv_iload hx hb dX2_byFrames_56 (lv_at hl 2 rfl) ?_
            refine lv_if_ne (tgt := 83) hx hb dX2_byFrames_58 (by decide) (fun c_59 => ?_) (fun c_59 => ?_)
            · skip
              refine lv_aloadN hx hb dX2_byFrames_83 (lv_at hl 0 rfl) ?_
              refine lv_ifnullN (tgt := 94) hx hb dX2_byFrames_85 (by decide) ?_
              refine lv_aload_n hx hb dX2_byFrames_94 rfl (lv_at hl 4 rfl) ?_
              refine s_get (a := 0) (b := 3) (ci := 2) X hw rfl rfl gX2 0 (by decide) fl_X2_13 rfl rfl dX2_byFrames_95 ?_
              refine lv_iload hx hb dX2_byFrames_98 (lv_at hl 1 rfl) ?_
              refine s_aaldS (a := 0) (b := 4) (n := 40) (k := t) (t := 4) (q := L (nm 1 (2 * t))) X hw rfl rfl f1 (by omega) (by decide) (if_pos (show t < 40 by omega)) dX2_byFrames_100 ?_
              refine lv_aload_n hx hb dX2_byFrames_101 rfl (lv_at hl 3 rfl) ?_
              refine m_callv (m_runV (i := nm 1 (2 * t)) (ci := 4) (As := [.ref (L (nm 0 8))]) (rest := []) X (k_X6_copyFrom Γ l L (sP y 0 8 (g, dd)) 1 (2 * t) 0 8 (pO1 (show t < 40 by omega)) pO8) v_X6_copyFrom ml_X2_72 hw hS (p_obj Γ L (c := sP y 0 8 (g, dd)) (pO1 (show t < 40 by omega))) rfl rfl rfl hl.1 ⟨Nat.le_of_ble_eq_true rfl, Nat.le_of_ble_eq_true rfl⟩ (Nat.le_of_ble_eq_true rfl) ⟨Nat.le_of_ble_eq_true rfl, Nat.le_of_ble_eq_true rfl⟩ dX2_byFrames_102) hS (fun L1 M1 H locs hp_60 hw hS => ?_)
              obtain ⟨e1, e2⟩ := hp_60
              rw [e1, e2] at hw; clear e1 e2
              obtain ⟨g_60, eg_60⟩ : ∃ gz : Nat → Int32, gz = cpy16 ((sP y 0 8 (g, dd)).2.1 0 (8 + 1)) ((sP y 0 8 (g, dd)).2.1 1 (2 * t + 1)) := ⟨_, rfl⟩
              rw [← eg_60] at hw
              rw [sP_dep, sP_tVso (by omega), sP_tSo (by omega)] at hw
              have hw : mW Γ.1 vwCl A L (cM Γ L (sP (sP y 1 (2 * t) (g_60, dd)) 0 8 (g, dd))) H := hw
              have hI := CInv.putP (a := 1) (b := 2 * t) (q := (g_60, dd)) hI (pO1 (show t < 40 by omega)) (by show dd ≤ 8; omega)
              have hk := hk.putP (a := 1) (b := 2 * t) (q := (g_60, dd)) (by omega)
              refine lv_aload_n hx hb dX2_byFrames_105 rfl (lv_at hl 4 rfl) ?_
              refine s_get (a := 0) (b := 3) (ci := 2) X hw rfl rfl gX2 2 (by decide) fl_X2_27 rfl rfl dX2_byFrames_106 ?_
              refine lv_aload_n hx hb dX2_byFrames_109 rfl (lv_at hl 5 rfl) ?_
              refine lv_aload_n hx hb dX2_byFrames_110 rfl (lv_at hl 6 rfl) ?_
              refine lv_iload hx hb dX2_byFrames_111 (lv_at hl 1 rfl) ?_
              refine m_calli (m_runV (i := nm 0 7) (ci := 6) (As := [.ref (L (nm 0 1)), .ref (L (nm (cm + 2) 0)), .int j]) (rest := []) X (k_X8_does Γ l L (sP y 1 (2 * t) (g_60, dd)) g dd cm j (by omega) hI (hk.lt hm)) v_X8_does ml_X2_76 hw hS rfl rfl rfl rfl hl.1 ⟨Nat.le_of_ble_eq_true rfl, Nat.le_of_ble_eq_true rfl⟩ (Nat.le_of_ble_eq_true rfl) ⟨Nat.le_of_ble_eq_true rfl, Nat.le_of_ble_eq_true rfl⟩ dX2_byFrames_113) hS (fun r_61 L1 M1 H locs hp_61 hw hS => ?_)
              obtain ⟨⟨t_61, rfl⟩, e1, v_61, w_61, ⟨h_61, d_61⟩, hd_61, e2⟩ := hp_61
              have hd_61 : d_61 ≤ 8 := hd_61
              rw [e1, e2] at hw; clear e1 e2
              have hI := (hI.free (b := 7) (k := 1) (v := v_61) (by decide)).free (b := 7) (k := 2) (v := w_61) (by decide)
              have hk := (hk.putS (a := 0) (b := 7) (k := 1) (v := v_61) (by omega)).putS (a := 0) (b := 7) (k := 2) (v := w_61) (by omega)
              refine lv_if_eq (tgt := 137) hx hb dX2_byFrames_116 (by decide) (fun c_62 => ?_) (fun c_62 => ?_)
              · skip
                have c_62 := bI_f c_62
                refine lv_iconst (v := 1) hx hb dX2_byFrames_137 (by decide) ?_
                refine lv_iload hx hb dX2_byFrames_138 (lv_at hl 1 rfl) ?_
                refine lv_iadd hx hb dX2_byFrames_140 ?_
                refine lv_topi (fun v_63 ev_63 => ?_)
                obtain rfl : v_63 = nI (1 + t) := ev_63.trans (nadd (a := 1) (b := t) rfl f1)
                clear ev_63
                exact m_iret X hr hlk hw hS (Nat.le_of_ble_eq_true rfl) (Nat.le_of_ble_eq_true rfl) ⟨rfl, _, rfl, (CInv.putP (a := 0) (b := 8) (q := (h_61, d_61)) hI pO8 (by show d_61 ≤ 8; omega)), (hk.putP (a := 0) (b := 8) (q := (h_61, d_61)) (by omega))⟩ dX2_byFrames_141
              · skip
                have c_62 := bI_t c_62
                refine lv_aload_n hx hb dX2_byFrames_119 rfl (lv_at hl 4 rfl) ?_
                refine lv_aload_n hx hb dX2_byFrames_120 rfl (lv_at hl 6 rfl) ?_
                refine m_calli (m_runV (i := nm 0 3) (ci := 2) (As := [.ref (L (nm (cm + 2) 0))]) (rest := []) X (k_X2_leadsToFrame Γ l L (sP (tS (tS (sP y 1 (2 * t) (g_60, dd)) 0 7 1 v_61) 0 7 2 w_61) 0 8 (h_61, d_61)) cm (CInv.putP (a := 0) (b := 8) (q := (h_61, d_61)) hI pO8 (by show d_61 ≤ 8; omega)) (hk.lt hm)) v_X2_leadsToFrame ml_X2_80 hw hS rfl rfl rfl rfl hl.1 ⟨Nat.le_of_ble_eq_true rfl, Nat.le_of_ble_eq_true rfl⟩ (Nat.le_of_ble_eq_true rfl) ⟨Nat.le_of_ble_eq_true rfl, Nat.le_of_ble_eq_true rfl⟩ dX2_byFrames_121) hS (fun r_64 L1 M1 H locs hp_64 hw hS => ?_)
                obtain ⟨⟨t_64, rfl⟩, e1, e2⟩ := hp_64
                rw [e1, e2] at hw; clear e1 e2
                refine lv_if_eq (tgt := 137) hx hb dX2_byFrames_124 (by decide) (fun c_65 => ?_) (fun c_65 => ?_)
                · skip
                  have c_65 := bI_f c_65
                  refine lv_iconst (v := 1) hx hb dX2_byFrames_137 (by decide) ?_
                  refine lv_iload hx hb dX2_byFrames_138 (lv_at hl 1 rfl) ?_
                  refine lv_iadd hx hb dX2_byFrames_140 ?_
                  refine lv_topi (fun v_66 ev_66 => ?_)
                  obtain rfl : v_66 = nI (1 + t) := ev_66.trans (nadd (a := 1) (b := t) rfl f1)
                  clear ev_66
                  exact m_iret X hr hlk hw hS (Nat.le_of_ble_eq_true rfl) (Nat.le_of_ble_eq_true rfl) ⟨rfl, _, rfl, (CInv.putP (a := 0) (b := 8) (q := (h_61, d_61)) hI pO8 (by show d_61 ≤ 8; omega)), (hk.putP (a := 0) (b := 8) (q := (h_61, d_61)) (by omega))⟩ dX2_byFrames_141
                · skip
                  have c_65 := bI_t c_65
                  refine lv_aload_n hx hb dX2_byFrames_127 rfl (lv_at hl 4 rfl) ?_
                  refine lv_aload_n hx hb dX2_byFrames_128 rfl (lv_at hl 6 rfl) ?_
                  refine lv_iload hx hb dX2_byFrames_129 (lv_at hl 1 rfl) ?_
                  refine m_calli (m_runV (i := nm 0 3) (ci := 2) (As := [.ref (L (nm (cm + 2) 0)), .int j]) (rest := []) X (k_X2_handlersFit Γ l L (sP (tS (tS (sP y 1 (2 * t) (g_60, dd)) 0 7 1 v_61) 0 7 2 w_61) 0 8 (h_61, d_61)) cm t j (CInv.putP (a := 0) (b := 8) (q := (h_61, d_61)) hI pO8 (by show d_61 ≤ 8; omega)) (hk.lt hm) (by omega) f1) v_X2_handlersFit ml_X2_84 hw hS rfl rfl rfl rfl hl.1 ⟨Nat.le_of_ble_eq_true rfl, Nat.le_of_ble_eq_true rfl⟩ (Nat.le_of_ble_eq_true rfl) ⟨Nat.le_of_ble_eq_true rfl, Nat.le_of_ble_eq_true rfl⟩ dX2_byFrames_131) hS (fun r_67 L1 M1 H locs hp_67 hw hS => ?_)
                  obtain ⟨⟨t_67, rfl⟩, ⟨h_67, d_67⟩, hd_67, e1, e2⟩ := hp_67
                  have hd_67 : d_67 ≤ 8 := hd_67
                  rw [e1, e2, sP_sPo (by decide)] at hw; clear e1 e2
                  have hI := CInv.putP (a := 0) (b := 5) (q := (h_67, d_67)) hI pO5 hd_67
                  have hk := hk.putP (a := 0) (b := 5) (q := (h_67, d_67)) (by omega)
                  refine lv_if_ne (tgt := 142) hx hb dX2_byFrames_134 (by decide) (fun c_68 => ?_) (fun c_68 => ?_)
                  · skip
                    have c_68 := bI_t c_68
                    refine lv_aload_n hx hb dX2_byFrames_142 rfl (lv_at hl 4 rfl) ?_
                    refine s_get (a := 0) (b := 3) (ci := 2) X hw rfl rfl gX2 2 (by decide) fl_X2_27 rfl rfl dX2_byFrames_143 ?_
                    refine s_get (a := 0) (b := 7) (ci := 6) X hw rfl rfl gX8 2 (by decide) fl_X2_88 rfl rfl dX2_byFrames_146 ?_
                    refine lv_istore (lv' := [(4, .int ((sP (sP (tS (tS (sP y 1 (2 * t) (g_60, dd)) 0 7 1 v_61) 0 7 2 w_61) 0 5 (h_67, d_67)) 0 8 (h_61, d_61)).1 0 7 2)), (6, .null), (5, .int j), (3, .ref (L (nm 0 8))), (0, .ref (L (nm 0 3))), (1, .ref (L (nm 0 1))), (2, .ref (L (nm (cm + 2) 0)))]) hx hb dX2_byFrames_149 hl (by decide) rfl (fun ls hl => ?_)
                    refine lv_iinc (v := j + 1) (lv' := [(5, .int (j + 1)), (4, .int ((sP (sP (tS (tS (sP y 1 (2 * t) (g_60, dd)) 0 7 1 v_61) 0 7 2 w_61) 0 5 (h_67, d_67)) 0 8 (h_61, d_61)).1 0 7 2)), (6, .null), (3, .ref (L (nm 0 8))), (0, .ref (L (nm 0 3))), (1, .ref (L (nm 0 1))), (2, .ref (L (nm (cm + 2) 0)))]) hx hb dX2_byFrames_151 hl (k := 2) rfl rfl (by decide) rfl (fun ls hl => ?_)
                    refine lv_goto (tgt := 27) hx hb dX2_byFrames_154 (by decide) ?_
                    exact ih (t + 1) _ _ _ _ _ _ _ ls (by omega) (nadd (a := t) (b := 1) f1 rfl) hI hk (by omega) hw hS (lv_sub hl [0, 1, 3, 4, 5, 6] rfl)
                  · skip
                    have c_68 := bI_f c_68
                    refine lv_iconst (v := 1) hx hb dX2_byFrames_137 (by decide) ?_
                    refine lv_iload hx hb dX2_byFrames_138 (lv_at hl 1 rfl) ?_
                    refine lv_iadd hx hb dX2_byFrames_140 ?_
                    refine lv_topi (fun v_69 ev_69 => ?_)
                    obtain rfl : v_69 = nI (1 + t) := ev_69.trans (nadd (a := 1) (b := t) rfl f1)
                    clear ev_69
                    exact m_iret X hr hlk hw hS (Nat.le_of_ble_eq_true rfl) (Nat.le_of_ble_eq_true rfl) ⟨rfl, _, rfl, (CInv.putP (a := 0) (b := 8) (q := (h_61, d_61)) hI pO8 (by show d_61 ≤ 8; omega)), (hk.putP (a := 0) (b := 8) (q := (h_61, d_61)) (by omega))⟩ dX2_byFrames_141
            · skip
              refine lv_goto (tgt := 78) hx hb dX2_byFrames_61 (by decide) ?_
              refine lv_iconst (v := 1) hx hb dX2_byFrames_78 (by decide) ?_
              refine lv_iload hx hb dX2_byFrames_79 (lv_at hl 1 rfl) ?_
              refine lv_iadd hx hb dX2_byFrames_81 ?_
              refine lv_topi (fun v_70 ev_70 => ?_)
              obtain rfl : v_70 = nI (1 + t) := ev_70.trans (nadd (a := 1) (b := t) rfl f1)
              clear ev_70
              exact m_iret X hr hlk hw hS (Nat.le_of_ble_eq_true rfl) (Nat.le_of_ble_eq_true rfl) ⟨rfl, _, rfl, (CInv.putP (a := 0) (b := 8) (q := (g, dd)) hI pO8 (by show dd ≤ 8; omega)), (hk.putP (a := 0) (b := 8) (q := (g, dd)) (by omega))⟩ dX2_byFrames_82
          · skip
            refine va_rf_some ?_
            refine lv_astore (lv' := [(6, .ref (L (nm (cm + 2) (2 * i_58 + 8)))), (5, .int j), (4, .int z), (3, .ref (L (nm 0 8))), (0, .ref (L (nm 0 3))), (1, .ref (L (nm 0 1))), (2, .ref (L (nm (cm + 2) 0)))]) hx hb dX2_byFrames_49 hl (by decide) rfl (fun ls hl => ?_)
            refine lv_aload hx hb dX2_byFrames_51 (lv_at hl 0 rfl) ?_
            refine lv_ifnonnull (tgt := 64) hx hb dX2_byFrames_53 (by decide) ?_
            refine lv_iload hx hb dX2_byFrames_64 (lv_at hl 2 rfl) ?_
            refine lv_if_eq (tgt := 83) hx hb dX2_byFrames_66 (by decide) (fun c_71 => ?_) (fun c_71 => ?_)
            · skip
              refine lv_aload hx hb dX2_byFrames_83 (lv_at hl 0 rfl) ?_
              refine lv_ifnull hx hb dX2_byFrames_85 ?_
              refine lv_aload_n hx hb dX2_byFrames_88 rfl (lv_at hl 3 rfl) ?_
              refine lv_aload hx hb dX2_byFrames_89 (lv_at hl 0 rfl) ?_
              refine m_callv (m_runV (i := nm 0 8) (ci := 4) (As := [.ref (L (nm (cm + 2) (2 * i_58 + 8)))]) (rest := []) X (k_X6_copyFrom Γ l L (sP y 0 8 (g, dd)) 0 8 (cm + 2) (2 * i_58 + 8) pO8 (pOF (hk.lt hm) hi_58 hf_58)) v_X6_copyFrom ml_X2_72 hw hS (p_obj Γ L (c := sP y 0 8 (g, dd)) pO8) rfl rfl rfl hl.1 ⟨Nat.le_of_ble_eq_true rfl, Nat.le_of_ble_eq_true rfl⟩ (Nat.le_of_ble_eq_true rfl) ⟨Nat.le_of_ble_eq_true rfl, Nat.le_of_ble_eq_true rfl⟩ dX2_byFrames_91) hS (fun L1 M1 H locs hp_72 hw hS => ?_)
              obtain ⟨e1, e2⟩ := hp_72
              rw [e1, e2] at hw; clear e1 e2
              obtain ⟨g_72, eg_72⟩ : ∃ gz : Nat → Int32, gz = cpy16 ((sP y 0 8 (g, dd)).2.1 (cm + 2) (2 * i_58 + 8 + 1)) ((sP y 0 8 (g, dd)).2.1 0 (8 + 1)) := ⟨_, rfl⟩
              rw [← eg_72] at hw
              rw [ed_58, sP_tVs, sP_tS] at hw
              have hw : mW Γ.1 vwCl A L (cM Γ L (sP y 0 8 (g_72, d_58))) H := hw
              refine lv_aload_n hx hb dX2_byFrames_94 rfl (lv_at hl 4 rfl) ?_
              refine s_get (a := 0) (b := 3) (ci := 2) X hw rfl rfl gX2 0 (by decide) fl_X2_13 rfl rfl dX2_byFrames_95 ?_
              refine lv_iload hx hb dX2_byFrames_98 (lv_at hl 1 rfl) ?_
              refine s_aaldS (a := 0) (b := 4) (n := 40) (k := t) (t := 4) (q := L (nm 1 (2 * t))) X hw rfl rfl f1 (by omega) (by decide) (if_pos (show t < 40 by omega)) dX2_byFrames_100 ?_
              refine lv_aload_n hx hb dX2_byFrames_101 rfl (lv_at hl 3 rfl) ?_
              refine m_callv (m_runV (i := nm 1 (2 * t)) (ci := 4) (As := [.ref (L (nm 0 8))]) (rest := []) X (k_X6_copyFrom Γ l L (sP y 0 8 (g_72, d_58)) 1 (2 * t) 0 8 (pO1 (show t < 40 by omega)) pO8) v_X6_copyFrom ml_X2_72 hw hS (p_obj Γ L (c := sP y 0 8 (g_72, d_58)) (pO1 (show t < 40 by omega))) rfl rfl rfl hl.1 ⟨Nat.le_of_ble_eq_true rfl, Nat.le_of_ble_eq_true rfl⟩ (Nat.le_of_ble_eq_true rfl) ⟨Nat.le_of_ble_eq_true rfl, Nat.le_of_ble_eq_true rfl⟩ dX2_byFrames_102) hS (fun L1 M1 H locs hp_73 hw hS => ?_)
              obtain ⟨e1, e2⟩ := hp_73
              rw [e1, e2] at hw; clear e1 e2
              obtain ⟨g_73, eg_73⟩ : ∃ gz : Nat → Int32, gz = cpy16 ((sP y 0 8 (g_72, d_58)).2.1 0 (8 + 1)) ((sP y 0 8 (g_72, d_58)).2.1 1 (2 * t + 1)) := ⟨_, rfl⟩
              rw [← eg_73] at hw
              rw [sP_dep, sP_tVso (by omega), sP_tSo (by omega)] at hw
              have hw : mW Γ.1 vwCl A L (cM Γ L (sP (sP y 1 (2 * t) (g_73, d_58)) 0 8 (g_72, d_58))) H := hw
              have hI := CInv.putP (a := 1) (b := 2 * t) (q := (g_73, d_58)) hI (pO1 (show t < 40 by omega)) (by show d_58 ≤ 8; omega)
              have hk := hk.putP (a := 1) (b := 2 * t) (q := (g_73, d_58)) (by omega)
              refine lv_aload_n hx hb dX2_byFrames_105 rfl (lv_at hl 4 rfl) ?_
              refine s_get (a := 0) (b := 3) (ci := 2) X hw rfl rfl gX2 2 (by decide) fl_X2_27 rfl rfl dX2_byFrames_106 ?_
              refine lv_aload_n hx hb dX2_byFrames_109 rfl (lv_at hl 5 rfl) ?_
              refine lv_aload_n hx hb dX2_byFrames_110 rfl (lv_at hl 6 rfl) ?_
              refine lv_iload hx hb dX2_byFrames_111 (lv_at hl 1 rfl) ?_
              refine m_calli (m_runV (i := nm 0 7) (ci := 6) (As := [.ref (L (nm 0 1)), .ref (L (nm (cm + 2) 0)), .int j]) (rest := []) X (k_X8_does Γ l L (sP y 1 (2 * t) (g_73, d_58)) g_72 d_58 cm j (by omega) hI (hk.lt hm)) v_X8_does ml_X2_76 hw hS rfl rfl rfl rfl hl.1 ⟨Nat.le_of_ble_eq_true rfl, Nat.le_of_ble_eq_true rfl⟩ (Nat.le_of_ble_eq_true rfl) ⟨Nat.le_of_ble_eq_true rfl, Nat.le_of_ble_eq_true rfl⟩ dX2_byFrames_113) hS (fun r_74 L1 M1 H locs hp_74 hw hS => ?_)
              obtain ⟨⟨t_74, rfl⟩, e1, v_74, w_74, ⟨h_74, d_74⟩, hd_74, e2⟩ := hp_74
              have hd_74 : d_74 ≤ 8 := hd_74
              rw [e1, e2] at hw; clear e1 e2
              have hI := (hI.free (b := 7) (k := 1) (v := v_74) (by decide)).free (b := 7) (k := 2) (v := w_74) (by decide)
              have hk := (hk.putS (a := 0) (b := 7) (k := 1) (v := v_74) (by omega)).putS (a := 0) (b := 7) (k := 2) (v := w_74) (by omega)
              refine lv_if_eq (tgt := 137) hx hb dX2_byFrames_116 (by decide) (fun c_75 => ?_) (fun c_75 => ?_)
              · skip
                have c_75 := bI_f c_75
                refine lv_iconst (v := 1) hx hb dX2_byFrames_137 (by decide) ?_
                refine lv_iload hx hb dX2_byFrames_138 (lv_at hl 1 rfl) ?_
                refine lv_iadd hx hb dX2_byFrames_140 ?_
                refine lv_topi (fun v_76 ev_76 => ?_)
                obtain rfl : v_76 = nI (1 + t) := ev_76.trans (nadd (a := 1) (b := t) rfl f1)
                clear ev_76
                exact m_iret X hr hlk hw hS (Nat.le_of_ble_eq_true rfl) (Nat.le_of_ble_eq_true rfl) ⟨rfl, _, rfl, (CInv.putP (a := 0) (b := 8) (q := (h_74, d_74)) hI pO8 (by show d_74 ≤ 8; omega)), (hk.putP (a := 0) (b := 8) (q := (h_74, d_74)) (by omega))⟩ dX2_byFrames_141
              · skip
                have c_75 := bI_t c_75
                refine lv_aload_n hx hb dX2_byFrames_119 rfl (lv_at hl 4 rfl) ?_
                refine lv_aload_n hx hb dX2_byFrames_120 rfl (lv_at hl 6 rfl) ?_
                refine m_calli (m_runV (i := nm 0 3) (ci := 2) (As := [.ref (L (nm (cm + 2) 0))]) (rest := []) X (k_X2_leadsToFrame Γ l L (sP (tS (tS (sP y 1 (2 * t) (g_73, d_58)) 0 7 1 v_74) 0 7 2 w_74) 0 8 (h_74, d_74)) cm (CInv.putP (a := 0) (b := 8) (q := (h_74, d_74)) hI pO8 (by show d_74 ≤ 8; omega)) (hk.lt hm)) v_X2_leadsToFrame ml_X2_80 hw hS rfl rfl rfl rfl hl.1 ⟨Nat.le_of_ble_eq_true rfl, Nat.le_of_ble_eq_true rfl⟩ (Nat.le_of_ble_eq_true rfl) ⟨Nat.le_of_ble_eq_true rfl, Nat.le_of_ble_eq_true rfl⟩ dX2_byFrames_121) hS (fun r_77 L1 M1 H locs hp_77 hw hS => ?_)
                obtain ⟨⟨t_77, rfl⟩, e1, e2⟩ := hp_77
                rw [e1, e2] at hw; clear e1 e2
                refine lv_if_eq (tgt := 137) hx hb dX2_byFrames_124 (by decide) (fun c_78 => ?_) (fun c_78 => ?_)
                · skip
                  have c_78 := bI_f c_78
                  refine lv_iconst (v := 1) hx hb dX2_byFrames_137 (by decide) ?_
                  refine lv_iload hx hb dX2_byFrames_138 (lv_at hl 1 rfl) ?_
                  refine lv_iadd hx hb dX2_byFrames_140 ?_
                  refine lv_topi (fun v_79 ev_79 => ?_)
                  obtain rfl : v_79 = nI (1 + t) := ev_79.trans (nadd (a := 1) (b := t) rfl f1)
                  clear ev_79
                  exact m_iret X hr hlk hw hS (Nat.le_of_ble_eq_true rfl) (Nat.le_of_ble_eq_true rfl) ⟨rfl, _, rfl, (CInv.putP (a := 0) (b := 8) (q := (h_74, d_74)) hI pO8 (by show d_74 ≤ 8; omega)), (hk.putP (a := 0) (b := 8) (q := (h_74, d_74)) (by omega))⟩ dX2_byFrames_141
                · skip
                  have c_78 := bI_t c_78
                  refine lv_aload_n hx hb dX2_byFrames_127 rfl (lv_at hl 4 rfl) ?_
                  refine lv_aload_n hx hb dX2_byFrames_128 rfl (lv_at hl 6 rfl) ?_
                  refine lv_iload hx hb dX2_byFrames_129 (lv_at hl 1 rfl) ?_
                  refine m_calli (m_runV (i := nm 0 3) (ci := 2) (As := [.ref (L (nm (cm + 2) 0)), .int j]) (rest := []) X (k_X2_handlersFit Γ l L (sP (tS (tS (sP y 1 (2 * t) (g_73, d_58)) 0 7 1 v_74) 0 7 2 w_74) 0 8 (h_74, d_74)) cm t j (CInv.putP (a := 0) (b := 8) (q := (h_74, d_74)) hI pO8 (by show d_74 ≤ 8; omega)) (hk.lt hm) (by omega) f1) v_X2_handlersFit ml_X2_84 hw hS rfl rfl rfl rfl hl.1 ⟨Nat.le_of_ble_eq_true rfl, Nat.le_of_ble_eq_true rfl⟩ (Nat.le_of_ble_eq_true rfl) ⟨Nat.le_of_ble_eq_true rfl, Nat.le_of_ble_eq_true rfl⟩ dX2_byFrames_131) hS (fun r_80 L1 M1 H locs hp_80 hw hS => ?_)
                  obtain ⟨⟨t_80, rfl⟩, ⟨h_80, d_80⟩, hd_80, e1, e2⟩ := hp_80
                  have hd_80 : d_80 ≤ 8 := hd_80
                  rw [e1, e2, sP_sPo (by decide)] at hw; clear e1 e2
                  have hI := CInv.putP (a := 0) (b := 5) (q := (h_80, d_80)) hI pO5 hd_80
                  have hk := hk.putP (a := 0) (b := 5) (q := (h_80, d_80)) (by omega)
                  refine lv_if_ne (tgt := 142) hx hb dX2_byFrames_134 (by decide) (fun c_81 => ?_) (fun c_81 => ?_)
                  · skip
                    have c_81 := bI_t c_81
                    refine lv_aload_n hx hb dX2_byFrames_142 rfl (lv_at hl 4 rfl) ?_
                    refine s_get (a := 0) (b := 3) (ci := 2) X hw rfl rfl gX2 2 (by decide) fl_X2_27 rfl rfl dX2_byFrames_143 ?_
                    refine s_get (a := 0) (b := 7) (ci := 6) X hw rfl rfl gX8 2 (by decide) fl_X2_88 rfl rfl dX2_byFrames_146 ?_
                    refine lv_istore (lv' := [(4, .int ((sP (sP (tS (tS (sP y 1 (2 * t) (g_73, d_58)) 0 7 1 v_74) 0 7 2 w_74) 0 5 (h_80, d_80)) 0 8 (h_74, d_74)).1 0 7 2)), (6, .ref (L (nm (cm + 2) (2 * i_58 + 8)))), (5, .int j), (3, .ref (L (nm 0 8))), (0, .ref (L (nm 0 3))), (1, .ref (L (nm 0 1))), (2, .ref (L (nm (cm + 2) 0)))]) hx hb dX2_byFrames_149 hl (by decide) rfl (fun ls hl => ?_)
                    refine lv_iinc (v := j + 1) (lv' := [(5, .int (j + 1)), (4, .int ((sP (sP (tS (tS (sP y 1 (2 * t) (g_73, d_58)) 0 7 1 v_74) 0 7 2 w_74) 0 5 (h_80, d_80)) 0 8 (h_74, d_74)).1 0 7 2)), (6, .ref (L (nm (cm + 2) (2 * i_58 + 8)))), (3, .ref (L (nm 0 8))), (0, .ref (L (nm 0 3))), (1, .ref (L (nm 0 1))), (2, .ref (L (nm (cm + 2) 0)))]) hx hb dX2_byFrames_151 hl (k := 2) rfl rfl (by decide) rfl (fun ls hl => ?_)
                    refine lv_goto (tgt := 27) hx hb dX2_byFrames_154 (by decide) ?_
                    exact ih (t + 1) _ _ _ _ _ _ _ ls (by omega) (nadd (a := t) (b := 1) f1 rfl) hI hk (by omega) hw hS (lv_sub hl [0, 1, 3, 4, 5, 6] rfl)
                  · skip
                    have c_81 := bI_f c_81
                    refine lv_iconst (v := 1) hx hb dX2_byFrames_137 (by decide) ?_
                    refine lv_iload hx hb dX2_byFrames_138 (lv_at hl 1 rfl) ?_
                    refine lv_iadd hx hb dX2_byFrames_140 ?_
                    refine lv_topi (fun v_82 ev_82 => ?_)
                    obtain rfl : v_82 = nI (1 + t) := ev_82.trans (nadd (a := 1) (b := t) rfl f1)
                    clear ev_82
                    exact m_iret X hr hlk hw hS (Nat.le_of_ble_eq_true rfl) (Nat.le_of_ble_eq_true rfl) ⟨rfl, _, rfl, (CInv.putP (a := 0) (b := 8) (q := (h_74, d_74)) hI pO8 (by show d_74 ≤ 8; omega)), (hk.putP (a := 0) (b := 8) (q := (h_74, d_74)) (by omega))⟩ dX2_byFrames_141
            · skip
              refine lv_aload_n hx hb dX2_byFrames_69 rfl (lv_at hl 3 rfl) ?_
              refine lv_aload hx hb dX2_byFrames_70 (lv_at hl 0 rfl) ?_
              refine m_calli (m_runV (i := nm 0 8) (ci := 4) (As := [.ref (L (nm (cm + 2) (2 * i_58 + 8)))]) (rest := []) X (k_X6_goesTo Γ l L (sP y 0 8 (g, dd)) 0 8 (cm + 2) (2 * i_58 + 8) pO8 (pOF (hk.lt hm) hi_58 hf_58)) v_X6_goesTo ml_X2_68 hw hS (p_obj Γ L (c := sP y 0 8 (g, dd)) pO8) rfl rfl rfl hl.1 ⟨Nat.le_of_ble_eq_true rfl, Nat.le_of_ble_eq_true rfl⟩ (Nat.le_of_ble_eq_true rfl) ⟨Nat.le_of_ble_eq_true rfl, Nat.le_of_ble_eq_true rfl⟩ dX2_byFrames_72) hS (fun r_83 L1 M1 H locs hp_83 hw hS => ?_)
              obtain ⟨⟨t_83, rfl⟩, e1, e2⟩ := hp_83
              rw [e1, e2] at hw; clear e1 e2
              refine lv_if_ne (tgt := 83) hx hb dX2_byFrames_75 (by decide) (fun c_84 => ?_) (fun c_84 => ?_)
              · skip
                have c_84 := bI_t c_84
                refine lv_aload hx hb dX2_byFrames_83 (lv_at hl 0 rfl) ?_
                refine lv_ifnull hx hb dX2_byFrames_85 ?_
                refine lv_aload_n hx hb dX2_byFrames_88 rfl (lv_at hl 3 rfl) ?_
                refine lv_aload hx hb dX2_byFrames_89 (lv_at hl 0 rfl) ?_
                refine m_callv (m_runV (i := nm 0 8) (ci := 4) (As := [.ref (L (nm (cm + 2) (2 * i_58 + 8)))]) (rest := []) X (k_X6_copyFrom Γ l L (sP y 0 8 (g, dd)) 0 8 (cm + 2) (2 * i_58 + 8) pO8 (pOF (hk.lt hm) hi_58 hf_58)) v_X6_copyFrom ml_X2_72 hw hS (p_obj Γ L (c := sP y 0 8 (g, dd)) pO8) rfl rfl rfl hl.1 ⟨Nat.le_of_ble_eq_true rfl, Nat.le_of_ble_eq_true rfl⟩ (Nat.le_of_ble_eq_true rfl) ⟨Nat.le_of_ble_eq_true rfl, Nat.le_of_ble_eq_true rfl⟩ dX2_byFrames_91) hS (fun L1 M1 H locs hp_85 hw hS => ?_)
                obtain ⟨e1, e2⟩ := hp_85
                rw [e1, e2] at hw; clear e1 e2
                obtain ⟨g_85, eg_85⟩ : ∃ gz : Nat → Int32, gz = cpy16 ((sP y 0 8 (g, dd)).2.1 (cm + 2) (2 * i_58 + 8 + 1)) ((sP y 0 8 (g, dd)).2.1 0 (8 + 1)) := ⟨_, rfl⟩
                rw [← eg_85] at hw
                rw [ed_58, sP_tVs, sP_tS] at hw
                have hw : mW Γ.1 vwCl A L (cM Γ L (sP y 0 8 (g_85, d_58))) H := hw
                refine lv_aload_n hx hb dX2_byFrames_94 rfl (lv_at hl 4 rfl) ?_
                refine s_get (a := 0) (b := 3) (ci := 2) X hw rfl rfl gX2 0 (by decide) fl_X2_13 rfl rfl dX2_byFrames_95 ?_
                refine lv_iload hx hb dX2_byFrames_98 (lv_at hl 1 rfl) ?_
                refine s_aaldS (a := 0) (b := 4) (n := 40) (k := t) (t := 4) (q := L (nm 1 (2 * t))) X hw rfl rfl f1 (by omega) (by decide) (if_pos (show t < 40 by omega)) dX2_byFrames_100 ?_
                refine lv_aload_n hx hb dX2_byFrames_101 rfl (lv_at hl 3 rfl) ?_
                refine m_callv (m_runV (i := nm 1 (2 * t)) (ci := 4) (As := [.ref (L (nm 0 8))]) (rest := []) X (k_X6_copyFrom Γ l L (sP y 0 8 (g_85, d_58)) 1 (2 * t) 0 8 (pO1 (show t < 40 by omega)) pO8) v_X6_copyFrom ml_X2_72 hw hS (p_obj Γ L (c := sP y 0 8 (g_85, d_58)) (pO1 (show t < 40 by omega))) rfl rfl rfl hl.1 ⟨Nat.le_of_ble_eq_true rfl, Nat.le_of_ble_eq_true rfl⟩ (Nat.le_of_ble_eq_true rfl) ⟨Nat.le_of_ble_eq_true rfl, Nat.le_of_ble_eq_true rfl⟩ dX2_byFrames_102) hS (fun L1 M1 H locs hp_86 hw hS => ?_)
                obtain ⟨e1, e2⟩ := hp_86
                rw [e1, e2] at hw; clear e1 e2
                obtain ⟨g_86, eg_86⟩ : ∃ gz : Nat → Int32, gz = cpy16 ((sP y 0 8 (g_85, d_58)).2.1 0 (8 + 1)) ((sP y 0 8 (g_85, d_58)).2.1 1 (2 * t + 1)) := ⟨_, rfl⟩
                rw [← eg_86] at hw
                rw [sP_dep, sP_tVso (by omega), sP_tSo (by omega)] at hw
                have hw : mW Γ.1 vwCl A L (cM Γ L (sP (sP y 1 (2 * t) (g_86, d_58)) 0 8 (g_85, d_58))) H := hw
                have hI := CInv.putP (a := 1) (b := 2 * t) (q := (g_86, d_58)) hI (pO1 (show t < 40 by omega)) (by show d_58 ≤ 8; omega)
                have hk := hk.putP (a := 1) (b := 2 * t) (q := (g_86, d_58)) (by omega)
                refine lv_aload_n hx hb dX2_byFrames_105 rfl (lv_at hl 4 rfl) ?_
                refine s_get (a := 0) (b := 3) (ci := 2) X hw rfl rfl gX2 2 (by decide) fl_X2_27 rfl rfl dX2_byFrames_106 ?_
                refine lv_aload_n hx hb dX2_byFrames_109 rfl (lv_at hl 5 rfl) ?_
                refine lv_aload_n hx hb dX2_byFrames_110 rfl (lv_at hl 6 rfl) ?_
                refine lv_iload hx hb dX2_byFrames_111 (lv_at hl 1 rfl) ?_
                refine m_calli (m_runV (i := nm 0 7) (ci := 6) (As := [.ref (L (nm 0 1)), .ref (L (nm (cm + 2) 0)), .int j]) (rest := []) X (k_X8_does Γ l L (sP y 1 (2 * t) (g_86, d_58)) g_85 d_58 cm j (by omega) hI (hk.lt hm)) v_X8_does ml_X2_76 hw hS rfl rfl rfl rfl hl.1 ⟨Nat.le_of_ble_eq_true rfl, Nat.le_of_ble_eq_true rfl⟩ (Nat.le_of_ble_eq_true rfl) ⟨Nat.le_of_ble_eq_true rfl, Nat.le_of_ble_eq_true rfl⟩ dX2_byFrames_113) hS (fun r_87 L1 M1 H locs hp_87 hw hS => ?_)
                obtain ⟨⟨t_87, rfl⟩, e1, v_87, w_87, ⟨h_87, d_87⟩, hd_87, e2⟩ := hp_87
                have hd_87 : d_87 ≤ 8 := hd_87
                rw [e1, e2] at hw; clear e1 e2
                have hI := (hI.free (b := 7) (k := 1) (v := v_87) (by decide)).free (b := 7) (k := 2) (v := w_87) (by decide)
                have hk := (hk.putS (a := 0) (b := 7) (k := 1) (v := v_87) (by omega)).putS (a := 0) (b := 7) (k := 2) (v := w_87) (by omega)
                refine lv_if_eq (tgt := 137) hx hb dX2_byFrames_116 (by decide) (fun c_88 => ?_) (fun c_88 => ?_)
                · skip
                  have c_88 := bI_f c_88
                  refine lv_iconst (v := 1) hx hb dX2_byFrames_137 (by decide) ?_
                  refine lv_iload hx hb dX2_byFrames_138 (lv_at hl 1 rfl) ?_
                  refine lv_iadd hx hb dX2_byFrames_140 ?_
                  refine lv_topi (fun v_89 ev_89 => ?_)
                  obtain rfl : v_89 = nI (1 + t) := ev_89.trans (nadd (a := 1) (b := t) rfl f1)
                  clear ev_89
                  exact m_iret X hr hlk hw hS (Nat.le_of_ble_eq_true rfl) (Nat.le_of_ble_eq_true rfl) ⟨rfl, _, rfl, (CInv.putP (a := 0) (b := 8) (q := (h_87, d_87)) hI pO8 (by show d_87 ≤ 8; omega)), (hk.putP (a := 0) (b := 8) (q := (h_87, d_87)) (by omega))⟩ dX2_byFrames_141
                · skip
                  have c_88 := bI_t c_88
                  refine lv_aload_n hx hb dX2_byFrames_119 rfl (lv_at hl 4 rfl) ?_
                  refine lv_aload_n hx hb dX2_byFrames_120 rfl (lv_at hl 6 rfl) ?_
                  refine m_calli (m_runV (i := nm 0 3) (ci := 2) (As := [.ref (L (nm (cm + 2) 0))]) (rest := []) X (k_X2_leadsToFrame Γ l L (sP (tS (tS (sP y 1 (2 * t) (g_86, d_58)) 0 7 1 v_87) 0 7 2 w_87) 0 8 (h_87, d_87)) cm (CInv.putP (a := 0) (b := 8) (q := (h_87, d_87)) hI pO8 (by show d_87 ≤ 8; omega)) (hk.lt hm)) v_X2_leadsToFrame ml_X2_80 hw hS rfl rfl rfl rfl hl.1 ⟨Nat.le_of_ble_eq_true rfl, Nat.le_of_ble_eq_true rfl⟩ (Nat.le_of_ble_eq_true rfl) ⟨Nat.le_of_ble_eq_true rfl, Nat.le_of_ble_eq_true rfl⟩ dX2_byFrames_121) hS (fun r_90 L1 M1 H locs hp_90 hw hS => ?_)
                  obtain ⟨⟨t_90, rfl⟩, e1, e2⟩ := hp_90
                  rw [e1, e2] at hw; clear e1 e2
                  refine lv_if_eq (tgt := 137) hx hb dX2_byFrames_124 (by decide) (fun c_91 => ?_) (fun c_91 => ?_)
                  · skip
                    have c_91 := bI_f c_91
                    refine lv_iconst (v := 1) hx hb dX2_byFrames_137 (by decide) ?_
                    refine lv_iload hx hb dX2_byFrames_138 (lv_at hl 1 rfl) ?_
                    refine lv_iadd hx hb dX2_byFrames_140 ?_
                    refine lv_topi (fun v_92 ev_92 => ?_)
                    obtain rfl : v_92 = nI (1 + t) := ev_92.trans (nadd (a := 1) (b := t) rfl f1)
                    clear ev_92
                    exact m_iret X hr hlk hw hS (Nat.le_of_ble_eq_true rfl) (Nat.le_of_ble_eq_true rfl) ⟨rfl, _, rfl, (CInv.putP (a := 0) (b := 8) (q := (h_87, d_87)) hI pO8 (by show d_87 ≤ 8; omega)), (hk.putP (a := 0) (b := 8) (q := (h_87, d_87)) (by omega))⟩ dX2_byFrames_141
                  · skip
                    have c_91 := bI_t c_91
                    refine lv_aload_n hx hb dX2_byFrames_127 rfl (lv_at hl 4 rfl) ?_
                    refine lv_aload_n hx hb dX2_byFrames_128 rfl (lv_at hl 6 rfl) ?_
                    refine lv_iload hx hb dX2_byFrames_129 (lv_at hl 1 rfl) ?_
                    refine m_calli (m_runV (i := nm 0 3) (ci := 2) (As := [.ref (L (nm (cm + 2) 0)), .int j]) (rest := []) X (k_X2_handlersFit Γ l L (sP (tS (tS (sP y 1 (2 * t) (g_86, d_58)) 0 7 1 v_87) 0 7 2 w_87) 0 8 (h_87, d_87)) cm t j (CInv.putP (a := 0) (b := 8) (q := (h_87, d_87)) hI pO8 (by show d_87 ≤ 8; omega)) (hk.lt hm) (by omega) f1) v_X2_handlersFit ml_X2_84 hw hS rfl rfl rfl rfl hl.1 ⟨Nat.le_of_ble_eq_true rfl, Nat.le_of_ble_eq_true rfl⟩ (Nat.le_of_ble_eq_true rfl) ⟨Nat.le_of_ble_eq_true rfl, Nat.le_of_ble_eq_true rfl⟩ dX2_byFrames_131) hS (fun r_93 L1 M1 H locs hp_93 hw hS => ?_)
                    obtain ⟨⟨t_93, rfl⟩, ⟨h_93, d_93⟩, hd_93, e1, e2⟩ := hp_93
                    have hd_93 : d_93 ≤ 8 := hd_93
                    rw [e1, e2, sP_sPo (by decide)] at hw; clear e1 e2
                    have hI := CInv.putP (a := 0) (b := 5) (q := (h_93, d_93)) hI pO5 hd_93
                    have hk := hk.putP (a := 0) (b := 5) (q := (h_93, d_93)) (by omega)
                    refine lv_if_ne (tgt := 142) hx hb dX2_byFrames_134 (by decide) (fun c_94 => ?_) (fun c_94 => ?_)
                    · skip
                      have c_94 := bI_t c_94
                      refine lv_aload_n hx hb dX2_byFrames_142 rfl (lv_at hl 4 rfl) ?_
                      refine s_get (a := 0) (b := 3) (ci := 2) X hw rfl rfl gX2 2 (by decide) fl_X2_27 rfl rfl dX2_byFrames_143 ?_
                      refine s_get (a := 0) (b := 7) (ci := 6) X hw rfl rfl gX8 2 (by decide) fl_X2_88 rfl rfl dX2_byFrames_146 ?_
                      refine lv_istore (lv' := [(4, .int ((sP (sP (tS (tS (sP y 1 (2 * t) (g_86, d_58)) 0 7 1 v_87) 0 7 2 w_87) 0 5 (h_93, d_93)) 0 8 (h_87, d_87)).1 0 7 2)), (6, .ref (L (nm (cm + 2) (2 * i_58 + 8)))), (5, .int j), (3, .ref (L (nm 0 8))), (0, .ref (L (nm 0 3))), (1, .ref (L (nm 0 1))), (2, .ref (L (nm (cm + 2) 0)))]) hx hb dX2_byFrames_149 hl (by decide) rfl (fun ls hl => ?_)
                      refine lv_iinc (v := j + 1) (lv' := [(5, .int (j + 1)), (4, .int ((sP (sP (tS (tS (sP y 1 (2 * t) (g_86, d_58)) 0 7 1 v_87) 0 7 2 w_87) 0 5 (h_93, d_93)) 0 8 (h_87, d_87)).1 0 7 2)), (6, .ref (L (nm (cm + 2) (2 * i_58 + 8)))), (3, .ref (L (nm 0 8))), (0, .ref (L (nm 0 3))), (1, .ref (L (nm 0 1))), (2, .ref (L (nm (cm + 2) 0)))]) hx hb dX2_byFrames_151 hl (k := 2) rfl rfl (by decide) rfl (fun ls hl => ?_)
                      refine lv_goto (tgt := 27) hx hb dX2_byFrames_154 (by decide) ?_
                      exact ih (t + 1) _ _ _ _ _ _ _ ls (by omega) (nadd (a := t) (b := 1) f1 rfl) hI hk (by omega) hw hS (lv_sub hl [0, 1, 3, 4, 5, 6] rfl)
                    · skip
                      have c_94 := bI_f c_94
                      refine lv_iconst (v := 1) hx hb dX2_byFrames_137 (by decide) ?_
                      refine lv_iload hx hb dX2_byFrames_138 (lv_at hl 1 rfl) ?_
                      refine lv_iadd hx hb dX2_byFrames_140 ?_
                      refine lv_topi (fun v_95 ev_95 => ?_)
                      obtain rfl : v_95 = nI (1 + t) := ev_95.trans (nadd (a := 1) (b := t) rfl f1)
                      clear ev_95
                      exact m_iret X hr hlk hw hS (Nat.le_of_ble_eq_true rfl) (Nat.le_of_ble_eq_true rfl) ⟨rfl, _, rfl, (CInv.putP (a := 0) (b := 8) (q := (h_87, d_87)) hI pO8 (by show d_87 ≤ 8; omega)), (hk.putP (a := 0) (b := 8) (q := (h_87, d_87)) (by omega))⟩ dX2_byFrames_141
              · skip
                have c_84 := bI_f c_84
                refine lv_iconst (v := 1) hx hb dX2_byFrames_78 (by decide) ?_
                refine lv_iload hx hb dX2_byFrames_79 (lv_at hl 1 rfl) ?_
                refine lv_iadd hx hb dX2_byFrames_81 ?_
                refine lv_topi (fun v_96 ev_96 => ?_)
                obtain rfl : v_96 = nI (1 + t) := ev_96.trans (nadd (a := 1) (b := t) rfl f1)
                clear ev_96
                exact m_iret X hr hlk hw hS (Nat.le_of_ble_eq_true rfl) (Nat.le_of_ble_eq_true rfl) ⟨rfl, _, rfl, (CInv.putP (a := 0) (b := 8) (q := (g, dd)) hI pO8 (by show dd ≤ 8; omega)), (hk.putP (a := 0) (b := 8) (q := (g, dd)) (by omega))⟩ dX2_byFrames_82
  refine lv_aload_n hx hb dX2_byFrames_0 rfl (lv_at hl 0 rfl) ?_
  refine lv_aload_n hx hb dX2_byFrames_1 rfl (lv_at hl 2 rfl) ?_
  refine m_callv (m_runV (i := nm 0 3) (ci := 2) (As := [.ref (L (nm (cm + 2) 0))]) (rest := []) X (k_X2_forget Γ l L x cm hI (hk.lt hm)) v_X2_forget ml_X2_50 hw hS rfl rfl rfl rfl hl.1 ⟨Nat.le_of_ble_eq_true rfl, Nat.le_of_ble_eq_true rfl⟩ (Nat.le_of_ble_eq_true rfl) ⟨Nat.le_of_ble_eq_true rfl, Nat.le_of_ble_eq_true rfl⟩ dX2_byFrames_2) hS (fun L1 M1 H locs hp_97 hw hS => ?_)
  obtain ⟨e1, c_97, e2, hI_97, hk_97⟩ := hp_97
  rw [e1, e2] at hw; clear e1 e2
  have hk := hk.tr hk_97
  have hI := hI_97
  refine lv_aload_n hx hb dX2_byFrames_5 rfl (lv_at hl 0 rfl) ?_
  refine s_get (a := 0) (b := 3) (ci := 2) X hw rfl rfl gX2 2 (by decide) fl_X2_27 rfl rfl dX2_byFrames_6 ?_
  refine s_get (a := 0) (b := 7) (ci := 6) X hw rfl rfl gX8 0 (by decide) fl_X2_54 rfl rfl dX2_byFrames_9 ?_
  refine lv_astore_n (lv' := [(3, .ref (L (nm 0 8))), (0, .ref (L (nm 0 3))), (1, .ref (L (nm 0 1))), (2, .ref (L (nm (cm + 2) 0)))]) hx hb dX2_byFrames_12 rfl hl (by decide) rfl (fun ls hl => ?_)
  refine lv_aload_n hx hb dX2_byFrames_13 rfl (lv_at hl 0 rfl) ?_
  refine lv_aload_n hx hb dX2_byFrames_14 rfl (lv_at hl 3 rfl) ?_
  refine s_get (a := cm + 2) (b := 0) (ci := 0) X hw (c_cell (hk.lt hm) 0 _ _ _) rfl gX0 1 (by decide) fl_X2_57 rfl rfl dX2_byFrames_15 ?_
  obtain ⟨z_98, hz_98, ez_98⟩ := (hI.2.1 cm (hk.lt hm)).1
  refine m_callv (m_runV (i := nm 0 8) (ci := 4) (As := [.int (c_97.1 (cm + 2) 0 1)]) (rest := []) X (k_X6_begin Γ l L c_97 0 8 (c_97.1 (cm + 2) 0 1) pO8) v_X6_begin ml_X2_60 hw hS (p_obj Γ L (c := c_97) pO8) rfl rfl rfl hl.1 ⟨Nat.le_of_ble_eq_true rfl, Nat.le_of_ble_eq_true rfl⟩ (Nat.le_of_ble_eq_true rfl) ⟨Nat.le_of_ble_eq_true rfl, Nat.le_of_ble_eq_true rfl⟩ dX2_byFrames_18) hS (fun L1 M1 H locs hp_99 hw hS => ?_)
  obtain ⟨g_99, e1, e2⟩ := hp_99
  rw [e1, e2] at hw; clear e1 e2
  refine lv_iconst (v := 1) hx hb dX2_byFrames_21 (by decide) ?_
  refine lv_istore (lv' := [(4, .int 1), (3, .ref (L (nm 0 8))), (0, .ref (L (nm 0 3))), (1, .ref (L (nm 0 1))), (2, .ref (L (nm (cm + 2) 0)))]) hx hb dX2_byFrames_22 hl (by decide) rfl (fun ls hl => ?_)
  refine lv_iconst (v := 0) hx hb dX2_byFrames_24 (by decide) ?_
  refine lv_istore (lv' := [(5, .int 0), (4, .int 1), (3, .ref (L (nm 0 8))), (0, .ref (L (nm 0 3))), (1, .ref (L (nm 0 1))), (2, .ref (L (nm (cm + 2) 0)))]) hx hb dX2_byFrames_25 hl (by decide) rfl (fun ls hl => ?_)
  exact KL 40 0 _ _ _ _ _ _ _ ls rfl rfl hI hk (by omega) hw hS (lv_sub hl [0, 1, 2, 3, 4, 5] rfl)
theorem v_X2_handsOn : mVm yX2_handsOn cX2_handsOn 5 (some .boolean) 3 := ⟨cd_X2_handsOn, im_X2_handsOn, se_X2_handsOn, ini_X2, by decide, by decide, by decide +kernel⟩
set_option maxHeartbeats 4000000 in
set_option maxRecDepth 100000 in
theorem k_X2_handsOn (Γ : mG) (l : Launch) (L : mI → Nat) (x : CS) (cm kn dz : Nat) (k : Int32) (hI : CInv x) (hm : cm < cN x) (hkn : kn < 40) (ek : k = nI kn) (hdz : dz ≤ 8) (edz : x.1 1 (2 * kn) 1 = nI dz) : mMet Γ l yX2_handsOn cX2_handsOn 5 (some .boolean) { frames := 5, cells := 0, slots := 0, locals := 116 } [.ref (L (nm 0 3)), .ref (L (nm 0 1)), .ref (L (nm (cm + 2) 0)), .int k] L (cM Γ L x) (mQi Γ (fun r L1 M1 => (∃ t : Bool, r = bI t) ∧ mKf 0 3 5 Γ L x L1 M1)) := by
  refine m_start (by decide) (Nat.le_of_ble_eq_true rfl) ?_
  intro p e s m args below meth c A ls X hr hlk hnm hw hS hl
  have hx := X.1.1
  have hb := X.1.2.1
  have hl : lv_has ls 5 [(0, .ref (L (nm 0 3))), (1, .ref (L (nm 0 1))), (2, .ref (L (nm (cm + 2) 0))), (3, .int k)] := hl
  have hk : kf 0 3 5 x x := kf.rf
  have KL : ∀ (n : Nat) (t : Nat) (j : Int32) (y : CS) (H : Heap) (locs : List Loc) (ls : Array Slot), t + n = 6 → j = nI t → CInv y → kf 0 3 5 x y → mW Γ.1 vwCl A L (cM Γ L (y)) H → va_S A s.heap H locs → lv_has ls 5 [(4, .int j), (0, .ref (L (nm 0 3))), (1, .ref (L (nm 0 1))), (2, .ref (L (nm (cm + 2) 0))), (3, .int k)] → W p l e { frames := 5, cells := 0, slots := 0, locals := 116 } s m args below meth c H locs 0 0 (MQ below (mQi Γ (fun r L1 M1 => (∃ t : Bool, r = bI t) ∧ mKf 0 3 5 Γ L x L1 M1) A) args s 0 0 A) (F0 m 111 ls []) := by
    intro n
    induction n with
    | zero =>
      intro t j y H locs ls f0 f1 f2 f3 hw hS hl
      have hI := f2
      have hk := f3
      refine lv_iload hx hb dX2_handsOn_111 (lv_at hl 0 rfl) ?_
      refine lv_aload_n hx hb dX2_handsOn_113 rfl (lv_at hl 3 rfl) ?_
      refine s_get (a := cm + 2) (b := 0) (ci := 0) X hw (c_cell (hk.lt hm) 0 _ _ _) rfl gX0 9 (by decide) fl_X2_98 rfl rfl dX2_handsOn_114 ?_
      obtain ⟨z_1, hz_1, ez_1⟩ := (hI.2.1 cm (hk.lt hm)).2.2
      refine lv_icmp_ge (tgt := 157) hx hb dX2_handsOn_117 (by decide) (fun c_2 => ?_) (fun c_2 => ?_)
      · skip
        have c_2n : t ≥ z_1 := ngeT (a := t) (b := z_1) f1 ez_1 (by omega) (by omega) c_2
        have c_2m : ¬ t < z_1 := by omega
        refine lv_iconst (v := 1) hx hb dX2_handsOn_157 (by decide) ?_
        exact m_zret (b := true) X hr hlk hw hS (Nat.le_of_ble_eq_true rfl) (Nat.le_of_ble_eq_true rfl) rfl ⟨⟨_, rfl⟩, ⟨rfl, _, rfl, hI, hk⟩⟩ dX2_handsOn_158
      · skip
        have c_2n : ¬ t ≥ z_1 := ngeF (a := t) (b := z_1) f1 ez_1 (by omega) (by omega) c_2
        have c_2m : t < z_1 := by omega
        refine lv_aload_n hx hb dX2_handsOn_120 rfl (lv_at hl 3 rfl) ?_
        refine lv_iload hx hb dX2_handsOn_121 (lv_at hl 0 rfl) ?_
        refine lv_iload_n hx hb dX2_handsOn_123 rfl (lv_at hl 4 rfl) ?_
        refine m_calli (m_runV (i := nm (cm + 2) 0) (ci := 0) (As := [.int j, .int k]) (rest := []) X (k_X0_covers Γ l L y cm j k hI (hk.lt hm)) v_X0_covers ml_X2_101 hw hS (c_cell (hk.lt hm) 0 _ _ _) rfl rfl rfl hl.1 ⟨Nat.le_of_ble_eq_true rfl, Nat.le_of_ble_eq_true rfl⟩ (Nat.le_of_ble_eq_true rfl) ⟨Nat.le_of_ble_eq_true rfl, Nat.le_of_ble_eq_true rfl⟩ dX2_handsOn_124) hS (fun r_3 L1 M1 H locs hp_3 hw hS => ?_)
        obtain ⟨⟨t_3, rfl⟩, e1, e2⟩ := hp_3
        rw [e1, e2] at hw; clear e1 e2
        refine lv_if_eq (tgt := 151) hx hb dX2_handsOn_127 (by decide) (fun c_4 => ?_) (fun c_4 => ?_)
        · skip
          have c_4 := bI_f c_4
          refine lv_iinc (v := j + 1) (lv' := [(4, .int (j + 1)), (0, .ref (L (nm 0 3))), (1, .ref (L (nm 0 1))), (2, .ref (L (nm (cm + 2) 0))), (3, .int k)]) hx hb dX2_handsOn_151 hl (k := 0) rfl rfl (by decide) rfl (fun ls hl => ?_)
          refine lv_goto (tgt := 111) hx hb dX2_handsOn_154 (by decide) ?_
          exact (by omega : False).elim
        · skip
          have c_4 := bI_t c_4
          refine lv_aload_n hx hb dX2_handsOn_130 rfl (lv_at hl 1 rfl) ?_
          refine lv_aload_n hx hb dX2_handsOn_131 rfl (lv_at hl 3 rfl) ?_
          refine lv_aload_n hx hb dX2_handsOn_132 rfl (lv_at hl 3 rfl) ?_
          refine s_get (a := cm + 2) (b := 0) (ci := 0) X hw (c_cell (hk.lt hm) 0 _ _ _) rfl gX0 7 (by decide) fl_X2_105 rfl rfl dX2_handsOn_133 ?_
          refine lv_iload hx hb dX2_handsOn_136 (lv_at hl 0 rfl) ?_
          refine s_iald (n := 6) (k := t) X hw (c_cell (hk.lt hm) 5 _ _ _) f1 (by omega) (by decide) dX2_handsOn_138 ?_
          refine lv_aload_n hx hb dX2_handsOn_139 rfl (lv_at hl 1 rfl) ?_
          refine s_get (a := 0) (b := 3) (ci := 2) X hw rfl rfl gX2 1 (by decide) fl_X2_20 rfl rfl dX2_handsOn_140 ?_
          refine m_calli (m_runV (i := nm 0 3) (ci := 2) (As := [.ref (L (nm (cm + 2) 0)), .int (y.2.1 (cm + 2) 5 t), .ref (L (nm 0 5))]) (rest := []) X (k_X2_arrives Γ l L y cm 0 5 (y.2.1 (cm + 2) 5 t) hI (hk.lt hm) pO5) v_X2_arrives ml_X2_115 hw hS rfl rfl rfl rfl hl.1 ⟨Nat.le_of_ble_eq_true rfl, Nat.le_of_ble_eq_true rfl⟩ (Nat.le_of_ble_eq_true rfl) ⟨Nat.le_of_ble_eq_true rfl, Nat.le_of_ble_eq_true rfl⟩ dX2_handsOn_143) hS (fun r_5 L1 M1 H locs hp_5 hw hS => ?_)
          obtain ⟨⟨t_5, rfl⟩, e1, c_5, e2, hI_5, hk_5⟩ := hp_5
          rw [e1, e2] at hw; clear e1 e2
          have hk := hk.tr hk_5
          have hI := hI_5
          refine lv_if_ne (tgt := 151) hx hb dX2_handsOn_146 (by decide) (fun c_6 => ?_) (fun c_6 => ?_)
          · skip
            have c_6 := bI_t c_6
            refine lv_iinc (v := j + 1) (lv' := [(4, .int (j + 1)), (0, .ref (L (nm 0 3))), (1, .ref (L (nm 0 1))), (2, .ref (L (nm (cm + 2) 0))), (3, .int k)]) hx hb dX2_handsOn_151 hl (k := 0) rfl rfl (by decide) rfl (fun ls hl => ?_)
            refine lv_goto (tgt := 111) hx hb dX2_handsOn_154 (by decide) ?_
            exact (by omega : False).elim
          · skip
            have c_6 := bI_f c_6
            refine lv_iconst (v := 0) hx hb dX2_handsOn_149 (by decide) ?_
            exact m_zret (b := false) X hr hlk hw hS (Nat.le_of_ble_eq_true rfl) (Nat.le_of_ble_eq_true rfl) rfl ⟨⟨_, rfl⟩, ⟨rfl, _, rfl, hI, hk⟩⟩ dX2_handsOn_150
    | succ n ih =>
      intro t j y H locs ls f0 f1 f2 f3 hw hS hl
      have hI := f2
      have hk := f3
      refine lv_iload hx hb dX2_handsOn_111 (lv_at hl 0 rfl) ?_
      refine lv_aload_n hx hb dX2_handsOn_113 rfl (lv_at hl 3 rfl) ?_
      refine s_get (a := cm + 2) (b := 0) (ci := 0) X hw (c_cell (hk.lt hm) 0 _ _ _) rfl gX0 9 (by decide) fl_X2_98 rfl rfl dX2_handsOn_114 ?_
      obtain ⟨z_7, hz_7, ez_7⟩ := (hI.2.1 cm (hk.lt hm)).2.2
      refine lv_icmp_ge (tgt := 157) hx hb dX2_handsOn_117 (by decide) (fun c_8 => ?_) (fun c_8 => ?_)
      · skip
        have c_8n : t ≥ z_7 := ngeT (a := t) (b := z_7) f1 ez_7 (by omega) (by omega) c_8
        have c_8m : ¬ t < z_7 := by omega
        refine lv_iconst (v := 1) hx hb dX2_handsOn_157 (by decide) ?_
        exact m_zret (b := true) X hr hlk hw hS (Nat.le_of_ble_eq_true rfl) (Nat.le_of_ble_eq_true rfl) rfl ⟨⟨_, rfl⟩, ⟨rfl, _, rfl, hI, hk⟩⟩ dX2_handsOn_158
      · skip
        have c_8n : ¬ t ≥ z_7 := ngeF (a := t) (b := z_7) f1 ez_7 (by omega) (by omega) c_8
        have c_8m : t < z_7 := by omega
        refine lv_aload_n hx hb dX2_handsOn_120 rfl (lv_at hl 3 rfl) ?_
        refine lv_iload hx hb dX2_handsOn_121 (lv_at hl 0 rfl) ?_
        refine lv_iload_n hx hb dX2_handsOn_123 rfl (lv_at hl 4 rfl) ?_
        refine m_calli (m_runV (i := nm (cm + 2) 0) (ci := 0) (As := [.int j, .int k]) (rest := []) X (k_X0_covers Γ l L y cm j k hI (hk.lt hm)) v_X0_covers ml_X2_101 hw hS (c_cell (hk.lt hm) 0 _ _ _) rfl rfl rfl hl.1 ⟨Nat.le_of_ble_eq_true rfl, Nat.le_of_ble_eq_true rfl⟩ (Nat.le_of_ble_eq_true rfl) ⟨Nat.le_of_ble_eq_true rfl, Nat.le_of_ble_eq_true rfl⟩ dX2_handsOn_124) hS (fun r_9 L1 M1 H locs hp_9 hw hS => ?_)
        obtain ⟨⟨t_9, rfl⟩, e1, e2⟩ := hp_9
        rw [e1, e2] at hw; clear e1 e2
        refine lv_if_eq (tgt := 151) hx hb dX2_handsOn_127 (by decide) (fun c_10 => ?_) (fun c_10 => ?_)
        · skip
          have c_10 := bI_f c_10
          refine lv_iinc (v := j + 1) (lv' := [(4, .int (j + 1)), (0, .ref (L (nm 0 3))), (1, .ref (L (nm 0 1))), (2, .ref (L (nm (cm + 2) 0))), (3, .int k)]) hx hb dX2_handsOn_151 hl (k := 0) rfl rfl (by decide) rfl (fun ls hl => ?_)
          refine lv_goto (tgt := 111) hx hb dX2_handsOn_154 (by decide) ?_
          exact ih (t + 1) _ _ _ _ ls (by omega) (nadd (a := t) (b := 1) f1 rfl) hI hk hw hS (lv_sub hl [0, 1, 2, 3, 4] rfl)
        · skip
          have c_10 := bI_t c_10
          refine lv_aload_n hx hb dX2_handsOn_130 rfl (lv_at hl 1 rfl) ?_
          refine lv_aload_n hx hb dX2_handsOn_131 rfl (lv_at hl 3 rfl) ?_
          refine lv_aload_n hx hb dX2_handsOn_132 rfl (lv_at hl 3 rfl) ?_
          refine s_get (a := cm + 2) (b := 0) (ci := 0) X hw (c_cell (hk.lt hm) 0 _ _ _) rfl gX0 7 (by decide) fl_X2_105 rfl rfl dX2_handsOn_133 ?_
          refine lv_iload hx hb dX2_handsOn_136 (lv_at hl 0 rfl) ?_
          refine s_iald (n := 6) (k := t) X hw (c_cell (hk.lt hm) 5 _ _ _) f1 (by omega) (by decide) dX2_handsOn_138 ?_
          refine lv_aload_n hx hb dX2_handsOn_139 rfl (lv_at hl 1 rfl) ?_
          refine s_get (a := 0) (b := 3) (ci := 2) X hw rfl rfl gX2 1 (by decide) fl_X2_20 rfl rfl dX2_handsOn_140 ?_
          refine m_calli (m_runV (i := nm 0 3) (ci := 2) (As := [.ref (L (nm (cm + 2) 0)), .int (y.2.1 (cm + 2) 5 t), .ref (L (nm 0 5))]) (rest := []) X (k_X2_arrives Γ l L y cm 0 5 (y.2.1 (cm + 2) 5 t) hI (hk.lt hm) pO5) v_X2_arrives ml_X2_115 hw hS rfl rfl rfl rfl hl.1 ⟨Nat.le_of_ble_eq_true rfl, Nat.le_of_ble_eq_true rfl⟩ (Nat.le_of_ble_eq_true rfl) ⟨Nat.le_of_ble_eq_true rfl, Nat.le_of_ble_eq_true rfl⟩ dX2_handsOn_143) hS (fun r_11 L1 M1 H locs hp_11 hw hS => ?_)
          obtain ⟨⟨t_11, rfl⟩, e1, c_11, e2, hI_11, hk_11⟩ := hp_11
          rw [e1, e2] at hw; clear e1 e2
          have hk := hk.tr hk_11
          have hI := hI_11
          refine lv_if_ne (tgt := 151) hx hb dX2_handsOn_146 (by decide) (fun c_12 => ?_) (fun c_12 => ?_)
          · skip
            have c_12 := bI_t c_12
            refine lv_iinc (v := j + 1) (lv' := [(4, .int (j + 1)), (0, .ref (L (nm 0 3))), (1, .ref (L (nm 0 1))), (2, .ref (L (nm (cm + 2) 0))), (3, .int k)]) hx hb dX2_handsOn_151 hl (k := 0) rfl rfl (by decide) rfl (fun ls hl => ?_)
            refine lv_goto (tgt := 111) hx hb dX2_handsOn_154 (by decide) ?_
            exact ih (t + 1) _ _ _ _ ls (by omega) (nadd (a := t) (b := 1) f1 rfl) hI hk hw hS (lv_sub hl [0, 1, 2, 3, 4] rfl)
          · skip
            have c_12 := bI_f c_12
            refine lv_iconst (v := 0) hx hb dX2_handsOn_149 (by decide) ?_
            exact m_zret (b := false) X hr hlk hw hS (Nat.le_of_ble_eq_true rfl) (Nat.le_of_ble_eq_true rfl) rfl ⟨⟨_, rfl⟩, ⟨rfl, _, rfl, hI, hk⟩⟩ dX2_handsOn_150
  have K95 : ∀ (y : CS) (H : Heap) (locs : List Loc) (ls : Array Slot), CInv y → kf 0 3 5 x y → mW Γ.1 vwCl A L (cM Γ L y) H → va_S A s.heap H locs → lv_has ls 5 [(0, .ref (L (nm 0 3))), (1, .ref (L (nm 0 1))), (2, .ref (L (nm (cm + 2) 0))), (3, .int k)] → W p l e { frames := 5, cells := 0, slots := 0, locals := 116 } s m args below meth c H locs 0 0 (MQ below (mQi Γ (fun r L1 M1 => (∃ t : Bool, r = bI t) ∧ mKf 0 3 5 Γ L x L1 M1) A) args s 0 0 A) (F0 m 95 ls []) := by
    intro y H locs ls hI hk hw hS hl
    refine lv_aload_n hx hb dX2_handsOn_95 rfl (lv_at hl 0 rfl) ?_
    refine s_get (a := 0) (b := 3) (ci := 2) X hw rfl rfl gX2 1 (by decide) fl_X2_20 rfl rfl dX2_handsOn_96 ?_
    refine lv_aload_n hx hb dX2_handsOn_99 rfl (lv_at hl 0 rfl) ?_
    refine s_get (a := 0) (b := 3) (ci := 2) X hw rfl rfl gX2 0 (by decide) fl_X2_13 rfl rfl dX2_handsOn_100 ?_
    refine lv_iload_n hx hb dX2_handsOn_103 rfl (lv_at hl 3 rfl) ?_
    refine s_aaldS (a := 0) (b := 4) (n := 40) (k := kn) (t := 4) (q := L (nm 1 (2 * kn))) X hw rfl rfl ek (by omega) (by decide) (if_pos (show kn < 40 by omega)) dX2_handsOn_104 ?_
    refine m_callv (m_runV (i := nm 0 5) (ci := 4) (As := [.ref (L (nm 1 (2 * kn)))]) (rest := []) X (k_X6_becomeCaught Γ l L y 0 5 1 (2 * kn) pO5 (pO1 (show kn < 40 by omega))) v_X6_becomeCaught ml_X2_95 hw hS (p_obj Γ L (c := y) pO5) rfl rfl rfl hl.1 ⟨Nat.le_of_ble_eq_true rfl, Nat.le_of_ble_eq_true rfl⟩ (Nat.le_of_ble_eq_true rfl) ⟨Nat.le_of_ble_eq_true rfl, Nat.le_of_ble_eq_true rfl⟩ dX2_handsOn_105) hS (fun L1 M1 H locs hp_13 hw hS => ?_)
    obtain ⟨⟨h_13, d_13⟩, hd_13, e1, e2⟩ := hp_13
    have hd_13 : d_13 ≤ 8 := hd_13
    rw [e1, e2] at hw; clear e1 e2
    refine lv_iconst (v := 0) hx hb dX2_handsOn_108 (by decide) ?_
    refine lv_istore (lv' := [(4, .int 0), (0, .ref (L (nm 0 3))), (1, .ref (L (nm 0 1))), (2, .ref (L (nm (cm + 2) 0))), (3, .int k)]) hx hb dX2_handsOn_109 hl (by decide) rfl (fun ls hl => ?_)
    have hk := (hk.putP (a := 0) (b := 5) (q := (h_13, d_13)) (by omega))
    have hI := (CInv.putP (a := 0) (b := 5) (q := (h_13, d_13)) hI pO5 (by show d_13 ≤ 8; omega))
    exact KL 6 0 _ _ _ _ ls rfl rfl hI hk hw hS (lv_sub hl [0, 1, 2, 3, 4] rfl)
  have K61 : ∀ (y : CS) (H : Heap) (locs : List Loc) (ls : Array Slot), CInv y → kf 0 3 5 x y → mW Γ.1 vwCl A L (cM Γ L y) H → va_S A s.heap H locs → lv_has ls 5 [(0, .ref (L (nm 0 3))), (1, .ref (L (nm 0 1))), (2, .ref (L (nm (cm + 2) 0))), (3, .int k)] → W p l e { frames := 5, cells := 0, slots := 0, locals := 116 } s m args below meth c H locs 0 0 (MQ below (mQi Γ (fun r L1 M1 => (∃ t : Bool, r = bI t) ∧ mKf 0 3 5 Γ L x L1 M1) A) args s 0 0 A) (F0 m 61 ls []) := by
    intro y H locs ls hI hk hw hS hl
    refine lv_aload_n hx hb dX2_handsOn_61 rfl (lv_at hl 0 rfl) ?_
    refine s_get (a := 0) (b := 3) (ci := 2) X hw rfl rfl gX2 2 (by decide) fl_X2_27 rfl rfl dX2_handsOn_62 ?_
    refine s_get (a := 0) (b := 7) (ci := 6) X hw rfl rfl gX8 1 (by decide) fl_X2_92 rfl rfl dX2_handsOn_65 ?_
    refine lv_if_lt (tgt := 95) hx hb dX2_handsOn_68 (by decide) (fun c_14 => ?_) (fun c_14 => ?_)
    · skip
      exact K95 _ _ _ ls hI hk hw hS (lv_sub hl [0, 1, 2, 3] rfl)
    · skip
      refine lv_aload_n hx hb dX2_handsOn_71 rfl (lv_at hl 0 rfl) ?_
      refine lv_aload_n hx hb dX2_handsOn_72 rfl (lv_at hl 2 rfl) ?_
      refine lv_aload_n hx hb dX2_handsOn_73 rfl (lv_at hl 0 rfl) ?_
      refine s_get (a := 0) (b := 3) (ci := 2) X hw rfl rfl gX2 2 (by decide) fl_X2_27 rfl rfl dX2_handsOn_74 ?_
      refine s_get (a := 0) (b := 7) (ci := 6) X hw rfl rfl gX8 1 (by decide) fl_X2_92 rfl rfl dX2_handsOn_77 ?_
      refine lv_aload_n hx hb dX2_handsOn_80 rfl (lv_at hl 0 rfl) ?_
      refine s_get (a := 0) (b := 3) (ci := 2) X hw rfl rfl gX2 2 (by decide) fl_X2_27 rfl rfl dX2_handsOn_81 ?_
      refine s_get (a := 0) (b := 7) (ci := 6) X hw rfl rfl gX8 0 (by decide) fl_X2_54 rfl rfl dX2_handsOn_84 ?_
      refine m_calli (m_runV (i := nm 0 3) (ci := 2) (As := [.ref (L (nm (cm + 2) 0)), .int (y.1 0 7 1), .ref (L (nm 0 8))]) (rest := []) X (k_X2_arrives Γ l L y cm 0 8 (y.1 0 7 1) hI (hk.lt hm) pO8) v_X2_arrives ml_X2_115 hw hS rfl rfl rfl rfl hl.1 ⟨Nat.le_of_ble_eq_true rfl, Nat.le_of_ble_eq_true rfl⟩ (Nat.le_of_ble_eq_true rfl) ⟨Nat.le_of_ble_eq_true rfl, Nat.le_of_ble_eq_true rfl⟩ dX2_handsOn_87) hS (fun r_15 L1 M1 H locs hp_15 hw hS => ?_)
      obtain ⟨⟨t_15, rfl⟩, e1, c_15, e2, hI_15, hk_15⟩ := hp_15
      rw [e1, e2] at hw; clear e1 e2
      have hk := hk.tr hk_15
      have hI := hI_15
      refine lv_if_ne (tgt := 95) hx hb dX2_handsOn_90 (by decide) (fun c_16 => ?_) (fun c_16 => ?_)
      · skip
        have c_16 := bI_t c_16
        exact K95 _ _ _ ls hI hk hw hS (lv_sub hl [0, 1, 2, 3] rfl)
      · skip
        have c_16 := bI_f c_16
        refine lv_iconst (v := 0) hx hb dX2_handsOn_93 (by decide) ?_
        exact m_zret (b := false) X hr hlk hw hS (Nat.le_of_ble_eq_true rfl) (Nat.le_of_ble_eq_true rfl) rfl ⟨⟨_, rfl⟩, ⟨rfl, _, rfl, hI, hk⟩⟩ dX2_handsOn_94
  refine lv_aload_n hx hb dX2_handsOn_0 rfl (lv_at hl 0 rfl) ?_
  refine s_get (a := 0) (b := 3) (ci := 2) X hw rfl rfl gX2 2 (by decide) fl_X2_27 rfl rfl dX2_handsOn_1 ?_
  refine s_get (a := 0) (b := 7) (ci := 6) X hw rfl rfl gX8 0 (by decide) fl_X2_54 rfl rfl dX2_handsOn_4 ?_
  refine lv_aload_n hx hb dX2_handsOn_7 rfl (lv_at hl 0 rfl) ?_
  refine s_get (a := 0) (b := 3) (ci := 2) X hw rfl rfl gX2 0 (by decide) fl_X2_13 rfl rfl dX2_handsOn_8 ?_
  refine lv_iload_n hx hb dX2_handsOn_11 rfl (lv_at hl 3 rfl) ?_
  refine s_aaldS (a := 0) (b := 4) (n := 40) (k := kn) (t := 4) (q := L (nm 1 (2 * kn))) X hw rfl rfl ek (by omega) (by decide) (if_pos (show kn < 40 by omega)) dX2_handsOn_12 ?_
  refine m_callv (m_runV (i := nm 0 8) (ci := 4) (As := [.ref (L (nm 1 (2 * kn)))]) (rest := []) X (k_X6_copyFrom Γ l L x 0 8 1 (2 * kn) pO8 (pO1 (show kn < 40 by omega))) v_X6_copyFrom ml_X2_72 hw hS (p_obj Γ L (c := x) pO8) rfl rfl rfl hl.1 ⟨Nat.le_of_ble_eq_true rfl, Nat.le_of_ble_eq_true rfl⟩ (Nat.le_of_ble_eq_true rfl) ⟨Nat.le_of_ble_eq_true rfl, Nat.le_of_ble_eq_true rfl⟩ dX2_handsOn_13) hS (fun L1 M1 H locs hp_17 hw hS => ?_)
  obtain ⟨e1, e2⟩ := hp_17
  rw [e1, e2] at hw; clear e1 e2
  obtain ⟨g_17, eg_17⟩ : ∃ gz : Nat → Int32, gz = cpy16 (x.2.1 1 (2 * kn + 1)) (x.2.1 0 (8 + 1)) := ⟨_, rfl⟩
  rw [← eg_17] at hw
  rw [edz] at hw
  have hw : mW Γ.1 vwCl A L (cM Γ L (sP x 0 8 (g_17, dz))) H := hw
  refine lv_aload_n hx hb dX2_handsOn_16 rfl (lv_at hl 0 rfl) ?_
  refine s_get (a := 0) (b := 3) (ci := 2) X hw rfl rfl gX2 2 (by decide) fl_X2_27 rfl rfl dX2_handsOn_17 ?_
  refine lv_aload_n hx hb dX2_handsOn_20 rfl (lv_at hl 1 rfl) ?_
  refine lv_aload_n hx hb dX2_handsOn_21 rfl (lv_at hl 2 rfl) ?_
  refine lv_iload_n hx hb dX2_handsOn_22 rfl (lv_at hl 3 rfl) ?_
  refine m_calli (m_runV (i := nm 0 7) (ci := 6) (As := [.ref (L (nm 0 1)), .ref (L (nm (cm + 2) 0)), .int k]) (rest := []) X (k_X8_does Γ l L x g_17 dz cm k (by omega) hI (hk.lt hm)) v_X8_does ml_X2_76 hw hS rfl rfl rfl rfl hl.1 ⟨Nat.le_of_ble_eq_true rfl, Nat.le_of_ble_eq_true rfl⟩ (Nat.le_of_ble_eq_true rfl) ⟨Nat.le_of_ble_eq_true rfl, Nat.le_of_ble_eq_true rfl⟩ dX2_handsOn_23) hS (fun r_18 L1 M1 H locs hp_18 hw hS => ?_)
  obtain ⟨⟨t_18, rfl⟩, e1, v_18, w_18, ⟨h_18, d_18⟩, hd_18, e2⟩ := hp_18
  have hd_18 : d_18 ≤ 8 := hd_18
  rw [e1, e2] at hw; clear e1 e2
  have hI := (hI.free (b := 7) (k := 1) (v := v_18) (by decide)).free (b := 7) (k := 2) (v := w_18) (by decide)
  have hk := (hk.putS (a := 0) (b := 7) (k := 1) (v := v_18) (by omega)).putS (a := 0) (b := 7) (k := 2) (v := w_18) (by omega)
  refine lv_if_ne (tgt := 31) hx hb dX2_handsOn_26 (by decide) (fun c_19 => ?_) (fun c_19 => ?_)
  · skip
    have c_19 := bI_t c_19
    refine lv_aload_n hx hb dX2_handsOn_31 rfl (lv_at hl 0 rfl) ?_
    refine s_get (a := 0) (b := 3) (ci := 2) X hw rfl rfl gX2 2 (by decide) fl_X2_27 rfl rfl dX2_handsOn_32 ?_
    refine s_get (a := 0) (b := 7) (ci := 6) X hw rfl rfl gX8 2 (by decide) fl_X2_88 rfl rfl dX2_handsOn_35 ?_
    refine lv_if_eq (tgt := 61) hx hb dX2_handsOn_38 (by decide) (fun c_20 => ?_) (fun c_20 => ?_)
    · skip
      have hk := (hk.putP (a := 0) (b := 8) (q := (h_18, d_18)) (by omega))
      have hI := (CInv.putP (a := 0) (b := 8) (q := (h_18, d_18)) hI pO8 (by show d_18 ≤ 8; omega))
      exact K61 _ _ _ ls hI hk hw hS (lv_sub hl [0, 1, 2, 3] rfl)
    · skip
      refine lv_aload_n hx hb dX2_handsOn_41 rfl (lv_at hl 0 rfl) ?_
      refine lv_aload_n hx hb dX2_handsOn_42 rfl (lv_at hl 2 rfl) ?_
      refine lv_iload_n hx hb dX2_handsOn_43 rfl (lv_at hl 3 rfl) ?_
      refine lv_iconst (v := 1) hx hb dX2_handsOn_44 (by decide) ?_
      refine lv_iadd hx hb dX2_handsOn_45 ?_
      refine lv_aload_n hx hb dX2_handsOn_46 rfl (lv_at hl 0 rfl) ?_
      refine s_get (a := 0) (b := 3) (ci := 2) X hw rfl rfl gX2 2 (by decide) fl_X2_27 rfl rfl dX2_handsOn_47 ?_
      refine s_get (a := 0) (b := 7) (ci := 6) X hw rfl rfl gX8 0 (by decide) fl_X2_54 rfl rfl dX2_handsOn_50 ?_
      refine m_calli (m_runV (i := nm 0 3) (ci := 2) (As := [.ref (L (nm (cm + 2) 0)), .int (k + 1), .ref (L (nm 0 8))]) (rest := []) X (k_X2_arrives Γ l L (sP (tS (tS x 0 7 1 v_18) 0 7 2 w_18) 0 8 (h_18, d_18)) cm 0 8 (k + 1) (CInv.putP (a := 0) (b := 8) (q := (h_18, d_18)) hI pO8 (by show d_18 ≤ 8; omega)) (hk.lt hm) pO8) v_X2_arrives ml_X2_115 hw hS rfl rfl rfl rfl hl.1 ⟨Nat.le_of_ble_eq_true rfl, Nat.le_of_ble_eq_true rfl⟩ (Nat.le_of_ble_eq_true rfl) ⟨Nat.le_of_ble_eq_true rfl, Nat.le_of_ble_eq_true rfl⟩ dX2_handsOn_53) hS (fun r_21 L1 M1 H locs hp_21 hw hS => ?_)
      obtain ⟨⟨t_21, rfl⟩, e1, c_21, e2, hI_21, hk_21⟩ := hp_21
      rw [e1, e2] at hw; clear e1 e2
      have hk := (hk.putP (a := 0) (b := 8) (q := (h_18, d_18)) (by omega)).tr hk_21
      have hI := hI_21
      refine lv_if_ne (tgt := 61) hx hb dX2_handsOn_56 (by decide) (fun c_22 => ?_) (fun c_22 => ?_)
      · skip
        have c_22 := bI_t c_22
        exact K61 _ _ _ ls hI hk hw hS (lv_sub hl [0, 1, 2, 3] rfl)
      · skip
        have c_22 := bI_f c_22
        refine lv_iconst (v := 0) hx hb dX2_handsOn_59 (by decide) ?_
        exact m_zret (b := false) X hr hlk hw hS (Nat.le_of_ble_eq_true rfl) (Nat.le_of_ble_eq_true rfl) rfl ⟨⟨_, rfl⟩, ⟨rfl, _, rfl, hI, hk⟩⟩ dX2_handsOn_60
  · skip
    have c_19 := bI_f c_19
    refine lv_iconst (v := 0) hx hb dX2_handsOn_29 (by decide) ?_
    exact m_zret (b := false) X hr hlk hw hS (Nat.le_of_ble_eq_true rfl) (Nat.le_of_ble_eq_true rfl) rfl ⟨⟨_, rfl⟩, ⟨rfl, _, rfl, (CInv.putP (a := 0) (b := 8) (q := (h_18, d_18)) hI pO8 (by show d_18 ≤ 8; omega)), (hk.putP (a := 0) (b := 8) (q := (h_18, d_18)) (by omega))⟩⟩ dX2_handsOn_30
theorem v_X2_byJoining : mVm yX2_byJoining cX2_byJoining 4 (some .int) 2 := ⟨cd_X2_byJoining, im_X2_byJoining, se_X2_byJoining, ini_X2, by decide, by decide, by decide +kernel⟩
