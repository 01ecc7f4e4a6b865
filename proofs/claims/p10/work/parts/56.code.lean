/-! THE CLASS'S CODE AND PROGRAM -/
def c_hasI (x : CS) (cm : Nat) (v : Int64) : Bool := !decide (v < 0) && decide (v < (x.1 (cm + 2) 0 4).toInt64)
theorem tS_rd {x : CS} {a b k a' b' k' : Nat} {v : Int32} (h : ¬ (a' = a ∧ b' = b ∧ k' = k)) : (tS x a b k v).1 a' b' k' = x.1 a' b' k' := by
  show up3 x.1 a b (upd (x.1 a b) k v) a' b' k' = _
  by_cases z : a' = a ∧ b' = b
  · obtain ⟨rfl, rfl⟩ := z
    rw [up3_self]
    have : k' ≠ k := fun e => h ⟨rfl, rfl, e⟩
    simp [upd, this]
  · rw [up3_ne z]
theorem tS_self {x : CS} {a b k : Nat} {v : Int32} : (tS x a b k v).1 a b k = v := by
  show up3 x.1 a b (upd (x.1 a b) k v) a b k = _
  rw [up3_self]
  simp [upd]
theorem l_nat {n : Nat} {v : Int64} (hn : n ≤ 40) (h1 : ¬ v < 0) (h2 : v < (nI n).toInt64) : ∃ k, k < n ∧ v.toInt32 = nI k ∧ v = (nI k).toInt64 := by
  have e0 : (0 : Int64).toInt = 0 := by decide
  have a1 : 0 ≤ v.toInt := by
    have : ¬ v.toInt < (0 : Int64).toInt := fun z => h1 (Int64.lt_iff_toInt_lt.mpr z)
    omega
  have a2 : v.toInt < n := by
    have := Int64.lt_iff_toInt_lt.mp h2
    rw [i64_toInt, nI_toInt (by omega)] at this
    exact this
  refine ⟨v.toInt.toNat, by omega, ?_, ?_⟩
  · apply Int32.toInt_inj.mp
    rw [nI_toInt (by omega), Int64.toInt_toInt32, Int.bmod_eq_of_le (by omega) (by omega)]
    omega
  · apply Int64.toInt_inj.mp
    rw [i64_toInt, nI_toInt (by omega)]
    omega
theorem hasI_nat {x : CS} {cm : Nat} {k : Int32} (hI : CInv x) (hm : cm < cN x) (h : c_hasI x cm k.toInt64 = true) : ∃ n, n < 40 ∧ k = nI n := by
  obtain ⟨z, hz, ez⟩ := (hI.2.1 cm hm).2.1
  unfold c_hasI at h
  simp only [Bool.and_eq_true, Bool.not_eq_true', decide_eq_false_iff_not, decide_eq_true_iff] at h
  rw [ez] at h
  obtain ⟨n, hn, e1, e2⟩ := l_nat (by omega) h.1 h.2
  refine ⟨n, by omega, ?_⟩
  apply Int32.toInt_inj.mp
  have e3 := congrArg Int64.toInt e2
  rw [i64_toInt, i64_toInt] at e3
  exact e3
theorem v_X0_hasInstruction : mVm yX0_hasInstruction cX0_hasInstruction 3 (some .boolean) 1 := ⟨cd_X0_hasInstruction, im_X0_hasInstruction, se_X0_hasInstruction, ini_X0, by decide, by decide, by decide +kernel⟩
set_option maxHeartbeats 4000000 in
set_option maxRecDepth 100000 in
theorem k_X0_hasInstruction (Γ : mG) (l : Launch) (L : mI → Nat) (x : CS) (cm : Nat) (v : Int64) (hm : cm < cN x) : mMet Γ l yX0_hasInstruction cX0_hasInstruction 3 (some .boolean) { frames := 0, cells := 0, slots := 0, locals := 0 } [.ref (L (nm (cm + 2) 0)), .long v] L (cM Γ L x) (mQi Γ (fun r L1 M1 => r = bI (c_hasI x cm v) ∧ L1 = L ∧ M1 = cM Γ L x)) := by
  refine m_start (by decide) (Nat.le_of_ble_eq_true rfl) ?_
  intro p e s m args below meth c A ls X hr hlk hnm hw hS hl
  have hx := X.1.1
  have hb := X.1.2.1
  have hl : lv_has ls 3 [(0, .ref (L (nm (cm + 2) 0))), (1, .long v)] := hl
  refine lv_lload_n hx hb dX0_hasInstruction_0 rfl (lv_at hl 1 rfl) ?_
  refine lv_lconst (v := 0) hx hb dX0_hasInstruction_1 (by decide) ?_
  refine m_lcmp_lt (tgt := 20) hx hb dX0_hasInstruction_2 dX0_hasInstruction_3 (by decide) (fun c_1 => ?_) (fun c_1 => ?_)
  · skip
    refine lv_iconst (v := 0) hx hb dX0_hasInstruction_20 (by decide) ?_
    exact m_zret (b := c_hasI x cm v) X hr hlk hw hS (Nat.le_of_ble_eq_true rfl) (Nat.le_of_ble_eq_true rfl) (by clear hb hx hl hS hw hnm hlk hr X; first | rfl | (simp_all [bI, c_hasI]; done)) ⟨rfl, rfl, rfl⟩ dX0_hasInstruction_21
  · skip
    refine lv_lload_n hx hb dX0_hasInstruction_6 rfl (lv_at hl 1 rfl) ?_
    refine lv_aload_n hx hb dX0_hasInstruction_7 rfl (lv_at hl 0 rfl) ?_
    refine s_get (a := cm + 2) (b := 0) (ci := 0) X hw (c_cell hm 0 _ _ _) rfl gX0 4 (by decide) fl_X0_44 rfl rfl dX0_hasInstruction_8 ?_
    refine lv_i2l (v := (x.1 (cm + 2) 0 4).toInt64) hx hb dX0_hasInstruction_11 rfl ?_
    refine m_lcmp_ge (tgt := 20) hx hb dX0_hasInstruction_12 dX0_hasInstruction_13 (by decide) (fun c_2 => ?_) (fun c_2 => ?_)
    · skip
      refine lv_iconst (v := 0) hx hb dX0_hasInstruction_20 (by decide) ?_
      exact m_zret (b := c_hasI x cm v) X hr hlk hw hS (Nat.le_of_ble_eq_true rfl) (Nat.le_of_ble_eq_true rfl) (by clear hb hx hl hS hw hnm hlk hr X; first | rfl | (simp_all [bI, c_hasI]; done)) ⟨rfl, rfl, rfl⟩ dX0_hasInstruction_21
    · skip
      refine lv_iconst (v := 1) hx hb dX0_hasInstruction_16 (by decide) ?_
      refine lv_goto (tgt := 21) hx hb dX0_hasInstruction_17 (by decide) ?_
      exact m_zret (b := c_hasI x cm v) X hr hlk hw hS (Nat.le_of_ble_eq_true rfl) (Nat.le_of_ble_eq_true rfl) (by clear hb hx hl hS hw hnm hlk hr X; first | rfl | (simp_all [bI, c_hasI]; done)) ⟨rfl, rfl, rfl⟩ dX0_hasInstruction_21
theorem v_X0_covers : mVm yX0_covers cX0_covers 3 (some .boolean) 2 := ⟨cd_X0_covers, im_X0_covers, se_X0_covers, ini_X0, by decide, by decide, by decide +kernel⟩
set_option maxHeartbeats 4000000 in
set_option maxRecDepth 100000 in
theorem k_X0_covers (Γ : mG) (l : Launch) (L : mI → Nat) (x : CS) (cm : Nat) (k : Int32) (w : Int32) (hI : CInv x) (hm : cm < cN x) : mMet Γ l yX0_covers cX0_covers 3 (some .boolean) { frames := 0, cells := 0, slots := 0, locals := 0 } [.ref (L (nm (cm + 2) 0)), .int k, .int w] L (cM Γ L x) (mQi Γ (fun r L1 M1 => (∃ t : Bool, r = bI t) ∧ L1 = L ∧ M1 = cM Γ L x)) := by
  refine m_start (by decide) (Nat.le_of_ble_eq_true rfl) ?_
  intro p e s m args below meth c A ls X hr hlk hnm hw hS hl
  have hx := X.1.1
  have hb := X.1.2.1
  have hl : lv_has ls 3 [(0, .ref (L (nm (cm + 2) 0))), (1, .int k), (2, .int w)] := hl
  refine lv_iload_n hx hb dX0_covers_0 rfl (lv_at hl 1 rfl) ?_
  refine lv_if_lt (tgt := 36) hx hb dX0_covers_1 (by decide) (fun c_1 => ?_) (fun c_1 => ?_)
  · skip
    refine lv_iconst (v := 0) hx hb dX0_covers_36 (by decide) ?_
    exact m_zret (b := false) X hr hlk hw hS (Nat.le_of_ble_eq_true rfl) (Nat.le_of_ble_eq_true rfl) rfl ⟨⟨_, rfl⟩, rfl, rfl⟩ dX0_covers_37
  · skip
    refine lv_iload_n hx hb dX0_covers_4 rfl (lv_at hl 1 rfl) ?_
    refine lv_aload_n hx hb dX0_covers_5 rfl (lv_at hl 0 rfl) ?_
    refine s_get (a := cm + 2) (b := 0) (ci := 0) X hw (c_cell hm 0 _ _ _) rfl gX0 9 (by decide) fl_X0_51 rfl rfl dX0_covers_6 ?_
    refine lv_icmp_ge (tgt := 36) hx hb dX0_covers_9 (by decide) (fun c_2 => ?_) (fun c_2 => ?_)
    · skip
      refine lv_iconst (v := 0) hx hb dX0_covers_36 (by decide) ?_
      exact m_zret (b := false) X hr hlk hw hS (Nat.le_of_ble_eq_true rfl) (Nat.le_of_ble_eq_true rfl) rfl ⟨⟨_, rfl⟩, rfl, rfl⟩ dX0_covers_37
    · skip
      obtain ⟨hmn, hmn6, emn⟩ := (hI.2.1 cm hm).2.2
      obtain ⟨kn, hkn, ek⟩ := nat_ltN (n := hmn) (by omega) (by assumption) (by rw [← emn]; exact Int32.not_le.mp (by assumption))
      refine lv_aload_n hx hb dX0_covers_12 rfl (lv_at hl 0 rfl) ?_
      refine s_get (a := cm + 2) (b := 0) (ci := 0) X hw (c_cell hm 0 _ _ _) rfl gX0 5 (by decide) fl_X0_19 rfl rfl dX0_covers_13 ?_
      refine lv_iload_n hx hb dX0_covers_16 rfl (lv_at hl 1 rfl) ?_
      refine s_iald (n := 6) (k := kn) X hw (c_cell hm 3 _ _ _) ek (by omega) (by decide) dX0_covers_17 ?_
      refine lv_iload_n hx hb dX0_covers_18 rfl (lv_at hl 2 rfl) ?_
      refine lv_icmp_gt (tgt := 36) hx hb dX0_covers_19 (by decide) (fun c_3 => ?_) (fun c_3 => ?_)
      · skip
        refine lv_iconst (v := 0) hx hb dX0_covers_36 (by decide) ?_
        exact m_zret (b := false) X hr hlk hw hS (Nat.le_of_ble_eq_true rfl) (Nat.le_of_ble_eq_true rfl) rfl ⟨⟨_, rfl⟩, rfl, rfl⟩ dX0_covers_37
      · skip
        refine lv_iload_n hx hb dX0_covers_22 rfl (lv_at hl 2 rfl) ?_
        refine lv_aload_n hx hb dX0_covers_23 rfl (lv_at hl 0 rfl) ?_
        refine s_get (a := cm + 2) (b := 0) (ci := 0) X hw (c_cell hm 0 _ _ _) rfl gX0 6 (by decide) fl_X0_22 rfl rfl dX0_covers_24 ?_
        refine lv_iload_n hx hb dX0_covers_27 rfl (lv_at hl 1 rfl) ?_
        refine s_iald (n := 6) (k := kn) X hw (c_cell hm 4 _ _ _) ek (by omega) (by decide) dX0_covers_28 ?_
        refine lv_icmp_ge (tgt := 36) hx hb dX0_covers_29 (by decide) (fun c_4 => ?_) (fun c_4 => ?_)
        · skip
          refine lv_iconst (v := 0) hx hb dX0_covers_36 (by decide) ?_
          exact m_zret (b := false) X hr hlk hw hS (Nat.le_of_ble_eq_true rfl) (Nat.le_of_ble_eq_true rfl) rfl ⟨⟨_, rfl⟩, rfl, rfl⟩ dX0_covers_37
        · skip
          refine lv_iconst (v := 1) hx hb dX0_covers_32 (by decide) ?_
          refine lv_goto (tgt := 37) hx hb dX0_covers_33 (by decide) ?_
          exact m_zret (b := true) X hr hlk hw hS (Nat.le_of_ble_eq_true rfl) (Nat.le_of_ble_eq_true rfl) rfl ⟨⟨_, rfl⟩, rfl, rfl⟩ dX0_covers_37
theorem v_X0_handlerFor : mVm yX0_handlerFor cX0_handlerFor 4 (some .int) 2 := ⟨cd_X0_handlerFor, im_X0_handlerFor, se_X0_handlerFor, ini_X0, by decide, by decide, by decide +kernel⟩
set_option maxHeartbeats 4000000 in
set_option maxRecDepth 100000 in
theorem k_X0_handlerFor (Γ : mG) (l : Launch) (L : mI → Nat) (x : CS) (cm : Nat) (v : Int32) (w : Int32) (hI : CInv x) (hm : cm < cN x) : mMet Γ l yX0_handlerFor cX0_handlerFor 4 (some .int) { frames := 1, cells := 0, slots := 0, locals := 22 } [.ref (L (nm (cm + 2) 0)), .int v, .int w] L (cM Γ L x) (mQi Γ (fun r L1 M1 => L1 = L ∧ M1 = cM Γ L x)) := by
  refine m_start (by decide) (Nat.le_of_ble_eq_true rfl) ?_
  intro p e s m args below meth c A ls X hr hlk hnm hw hS hl
  have hx := X.1.1
  have hb := X.1.2.1
  have hl : lv_has ls 4 [(0, .ref (L (nm (cm + 2) 0))), (1, .int v), (2, .int w)] := hl
  have KL : ∀ (n : Nat) (t : Nat) (j : Int32) (H : Heap) (locs : List Loc) (ls : Array Slot), t + n = 6 → j = nI t → mW Γ.1 vwCl A L (cM Γ L (x)) H → va_S A s.heap H locs → lv_has ls 4 [(3, .int j), (0, .ref (L (nm (cm + 2) 0))), (1, .int v), (2, .int w)] → W p l e { frames := 1, cells := 0, slots := 0, locals := 22 } s m args below meth c H locs 0 0 (MQ below (mQi Γ (fun r L1 M1 => L1 = L ∧ M1 = cM Γ L x) A) args s 0 0 A) (F0 m 2 ls []) := by
    intro n
    induction n with
    | zero =>
      intro t j H locs ls f0 f1 hw hS hl
      refine lv_iload_n hx hb dX0_handlerFor_2 rfl (lv_at hl 0 rfl) ?_
      refine lv_aload_n hx hb dX0_handlerFor_3 rfl (lv_at hl 1 rfl) ?_
      refine s_get (a := cm + 2) (b := 0) (ci := 0) X hw (c_cell hm 0 _ _ _) rfl gX0 9 (by decide) fl_X0_51 rfl rfl dX0_handlerFor_4 ?_
      obtain ⟨z_1, hz_1, ez_1⟩ := (hI.2.1 cm hm).2.2
      refine lv_icmp_ge (tgt := 57) hx hb dX0_handlerFor_7 (by decide) (fun c_2 => ?_) (fun c_2 => ?_)
      · skip
        have c_2n : t ≥ z_1 := ngeT (a := t) (b := z_1) f1 ez_1 (by omega) (by omega) c_2
        have c_2m : ¬ t < z_1 := by omega
        refine lv_iconst (v := (-1)) hx hb dX0_handlerFor_57 (by decide) ?_
        exact m_iret X hr hlk hw hS (Nat.le_of_ble_eq_true rfl) (Nat.le_of_ble_eq_true rfl) ⟨rfl, rfl⟩ dX0_handlerFor_58
      · skip
        have c_2n : ¬ t ≥ z_1 := ngeF (a := t) (b := z_1) f1 ez_1 (by omega) (by omega) c_2
        have c_2m : t < z_1 := by omega
        refine lv_iload_n hx hb dX0_handlerFor_10 rfl (lv_at hl 0 rfl) ?_
        refine lv_bipush (v := 6) hx hb dX0_handlerFor_11 (by decide) ?_
        refine lv_icmp_ge (tgt := 57) hx hb dX0_handlerFor_13 (by decide) (fun c_3 => ?_) (fun c_3 => ?_)
        · skip
          have c_3n : t ≥ 6 := ngeT (a := t) (b := 6) f1 rfl (by omega) (by omega) c_3
          have c_3m : ¬ t < 6 := by omega
          refine lv_iconst (v := (-1)) hx hb dX0_handlerFor_57 (by decide) ?_
          exact m_iret X hr hlk hw hS (Nat.le_of_ble_eq_true rfl) (Nat.le_of_ble_eq_true rfl) ⟨rfl, rfl⟩ dX0_handlerFor_58
        · skip
          have c_3n : ¬ t ≥ 6 := ngeF (a := t) (b := 6) f1 rfl (by omega) (by omega) c_3
          have c_3m : t < 6 := by omega
          refine lv_aload_n hx hb dX0_handlerFor_16 rfl (lv_at hl 1 rfl) ?_
          refine lv_iload_n hx hb dX0_handlerFor_17 rfl (lv_at hl 0 rfl) ?_
          refine lv_iload_n hx hb dX0_handlerFor_18 rfl (lv_at hl 2 rfl) ?_
          refine m_calli (m_runV (i := nm (cm + 2) 0) (ci := 0) (As := [.int j, .int v]) (rest := []) X (k_X0_covers Γ l L x cm j v hI hm) v_X0_covers ml_X0_62 hw hS (c_cell hm 0 _ _ _) rfl rfl rfl hl.1 ⟨Nat.le_of_ble_eq_true rfl, Nat.le_of_ble_eq_true rfl⟩ (Nat.le_of_ble_eq_true rfl) ⟨Nat.le_of_ble_eq_true rfl, Nat.le_of_ble_eq_true rfl⟩ dX0_handlerFor_19) hS (fun r_4 L1 M1 H locs hp_4 hw hS => ?_)
          obtain ⟨⟨t_4, rfl⟩, e1, e2⟩ := hp_4
          rw [e1, e2] at hw; clear e1 e2
          refine lv_if_eq (tgt := 51) hx hb dX0_handlerFor_22 (by decide) (fun c_5 => ?_) (fun c_5 => ?_)
          · skip
            have c_5 := bI_f c_5
            refine lv_iinc (v := j + 1) (lv' := [(3, .int (j + 1)), (0, .ref (L (nm (cm + 2) 0))), (1, .int v), (2, .int w)]) hx hb dX0_handlerFor_51 hl (k := 0) rfl rfl (by decide) rfl (fun ls hl => ?_)
            refine lv_goto (tgt := 2) hx hb dX0_handlerFor_54 (by decide) ?_
            exact (by omega : False).elim
          · skip
            have c_5 := bI_t c_5
            refine lv_aload_n hx hb dX0_handlerFor_25 rfl (lv_at hl 1 rfl) ?_
            refine s_get (a := cm + 2) (b := 0) (ci := 0) X hw (c_cell hm 0 _ _ _) rfl gX0 8 (by decide) fl_X0_28 rfl rfl dX0_handlerFor_26 ?_
            refine lv_iload_n hx hb dX0_handlerFor_29 rfl (lv_at hl 0 rfl) ?_
            refine s_iald (n := 6) (k := t) X hw (c_cell hm 6 _ _ _) f1 (by omega) (by decide) dX0_handlerFor_30 ?_
            refine lv_iload_n hx hb dX0_handlerFor_31 rfl (lv_at hl 3 rfl) ?_
            refine lv_icmp_eq (tgt := 44) hx hb dX0_handlerFor_32 (by decide) (fun c_6 => ?_) (fun c_6 => ?_)
            · skip
              refine lv_aload_n hx hb dX0_handlerFor_44 rfl (lv_at hl 1 rfl) ?_
              refine s_get (a := cm + 2) (b := 0) (ci := 0) X hw (c_cell hm 0 _ _ _) rfl gX0 7 (by decide) fl_X0_25 rfl rfl dX0_handlerFor_45 ?_
              refine lv_iload_n hx hb dX0_handlerFor_48 rfl (lv_at hl 0 rfl) ?_
              refine s_iald (n := 6) (k := t) X hw (c_cell hm 5 _ _ _) f1 (by omega) (by decide) dX0_handlerFor_49 ?_
              exact m_iret X hr hlk hw hS (Nat.le_of_ble_eq_true rfl) (Nat.le_of_ble_eq_true rfl) ⟨rfl, rfl⟩ dX0_handlerFor_50
            · skip
              refine lv_aload_n hx hb dX0_handlerFor_35 rfl (lv_at hl 1 rfl) ?_
              refine s_get (a := cm + 2) (b := 0) (ci := 0) X hw (c_cell hm 0 _ _ _) rfl gX0 8 (by decide) fl_X0_28 rfl rfl dX0_handlerFor_36 ?_
              refine lv_iload_n hx hb dX0_handlerFor_39 rfl (lv_at hl 0 rfl) ?_
              refine s_iald (n := 6) (k := t) X hw (c_cell hm 6 _ _ _) f1 (by omega) (by decide) dX0_handlerFor_40 ?_
              refine lv_if_ne (tgt := 51) hx hb dX0_handlerFor_41 (by decide) (fun c_7 => ?_) (fun c_7 => ?_)
              · skip
                refine lv_iinc (v := j + 1) (lv' := [(3, .int (j + 1)), (0, .ref (L (nm (cm + 2) 0))), (1, .int v), (2, .int w)]) hx hb dX0_handlerFor_51 hl (k := 0) rfl rfl (by decide) rfl (fun ls hl => ?_)
                refine lv_goto (tgt := 2) hx hb dX0_handlerFor_54 (by decide) ?_
                exact (by omega : False).elim
              · skip
                refine lv_aload_n hx hb dX0_handlerFor_44 rfl (lv_at hl 1 rfl) ?_
                refine s_get (a := cm + 2) (b := 0) (ci := 0) X hw (c_cell hm 0 _ _ _) rfl gX0 7 (by decide) fl_X0_25 rfl rfl dX0_handlerFor_45 ?_
                refine lv_iload_n hx hb dX0_handlerFor_48 rfl (lv_at hl 0 rfl) ?_
                refine s_iald (n := 6) (k := t) X hw (c_cell hm 5 _ _ _) f1 (by omega) (by decide) dX0_handlerFor_49 ?_
                exact m_iret X hr hlk hw hS (Nat.le_of_ble_eq_true rfl) (Nat.le_of_ble_eq_true rfl) ⟨rfl, rfl⟩ dX0_handlerFor_50
    | succ n ih =>
      intro t j H locs ls f0 f1 hw hS hl
      refine lv_iload_n hx hb dX0_handlerFor_2 rfl (lv_at hl 0 rfl) ?_
      refine lv_aload_n hx hb dX0_handlerFor_3 rfl (lv_at hl 1 rfl) ?_
      refine s_get (a := cm + 2) (b := 0) (ci := 0) X hw (c_cell hm 0 _ _ _) rfl gX0 9 (by decide) fl_X0_51 rfl rfl dX0_handlerFor_4 ?_
      obtain ⟨z_8, hz_8, ez_8⟩ := (hI.2.1 cm hm).2.2
      refine lv_icmp_ge (tgt := 57) hx hb dX0_handlerFor_7 (by decide) (fun c_9 => ?_) (fun c_9 => ?_)
      · skip
        have c_9n : t ≥ z_8 := ngeT (a := t) (b := z_8) f1 ez_8 (by omega) (by omega) c_9
        have c_9m : ¬ t < z_8 := by omega
        refine lv_iconst (v := (-1)) hx hb dX0_handlerFor_57 (by decide) ?_
        exact m_iret X hr hlk hw hS (Nat.le_of_ble_eq_true rfl) (Nat.le_of_ble_eq_true rfl) ⟨rfl, rfl⟩ dX0_handlerFor_58
      · skip
        have c_9n : ¬ t ≥ z_8 := ngeF (a := t) (b := z_8) f1 ez_8 (by omega) (by omega) c_9
        have c_9m : t < z_8 := by omega
        refine lv_iload_n hx hb dX0_handlerFor_10 rfl (lv_at hl 0 rfl) ?_
        refine lv_bipush (v := 6) hx hb dX0_handlerFor_11 (by decide) ?_
        refine lv_icmp_ge (tgt := 57) hx hb dX0_handlerFor_13 (by decide) (fun c_10 => ?_) (fun c_10 => ?_)
        · skip
          have c_10n : t ≥ 6 := ngeT (a := t) (b := 6) f1 rfl (by omega) (by omega) c_10
          have c_10m : ¬ t < 6 := by omega
          refine lv_iconst (v := (-1)) hx hb dX0_handlerFor_57 (by decide) ?_
          exact m_iret X hr hlk hw hS (Nat.le_of_ble_eq_true rfl) (Nat.le_of_ble_eq_true rfl) ⟨rfl, rfl⟩ dX0_handlerFor_58
        · skip
          have c_10n : ¬ t ≥ 6 := ngeF (a := t) (b := 6) f1 rfl (by omega) (by omega) c_10
          have c_10m : t < 6 := by omega
          refine lv_aload_n hx hb dX0_handlerFor_16 rfl (lv_at hl 1 rfl) ?_
          refine lv_iload_n hx hb dX0_handlerFor_17 rfl (lv_at hl 0 rfl) ?_
          refine lv_iload_n hx hb dX0_handlerFor_18 rfl (lv_at hl 2 rfl) ?_
          refine m_calli (m_runV (i := nm (cm + 2) 0) (ci := 0) (As := [.int j, .int v]) (rest := []) X (k_X0_covers Γ l L x cm j v hI hm) v_X0_covers ml_X0_62 hw hS (c_cell hm 0 _ _ _) rfl rfl rfl hl.1 ⟨Nat.le_of_ble_eq_true rfl, Nat.le_of_ble_eq_true rfl⟩ (Nat.le_of_ble_eq_true rfl) ⟨Nat.le_of_ble_eq_true rfl, Nat.le_of_ble_eq_true rfl⟩ dX0_handlerFor_19) hS (fun r_11 L1 M1 H locs hp_11 hw hS => ?_)
          obtain ⟨⟨t_11, rfl⟩, e1, e2⟩ := hp_11
          rw [e1, e2] at hw; clear e1 e2
          refine lv_if_eq (tgt := 51) hx hb dX0_handlerFor_22 (by decide) (fun c_12 => ?_) (fun c_12 => ?_)
          · skip
            have c_12 := bI_f c_12
            refine lv_iinc (v := j + 1) (lv' := [(3, .int (j + 1)), (0, .ref (L (nm (cm + 2) 0))), (1, .int v), (2, .int w)]) hx hb dX0_handlerFor_51 hl (k := 0) rfl rfl (by decide) rfl (fun ls hl => ?_)
            refine lv_goto (tgt := 2) hx hb dX0_handlerFor_54 (by decide) ?_
            exact ih (t + 1) _ _ _ ls (by omega) (nadd (a := t) (b := 1) f1 rfl) hw hS (lv_sub hl [0, 1, 2, 3] rfl)
          · skip
            have c_12 := bI_t c_12
            refine lv_aload_n hx hb dX0_handlerFor_25 rfl (lv_at hl 1 rfl) ?_
            refine s_get (a := cm + 2) (b := 0) (ci := 0) X hw (c_cell hm 0 _ _ _) rfl gX0 8 (by decide) fl_X0_28 rfl rfl dX0_handlerFor_26 ?_
            refine lv_iload_n hx hb dX0_handlerFor_29 rfl (lv_at hl 0 rfl) ?_
            refine s_iald (n := 6) (k := t) X hw (c_cell hm 6 _ _ _) f1 (by omega) (by decide) dX0_handlerFor_30 ?_
            refine lv_iload_n hx hb dX0_handlerFor_31 rfl (lv_at hl 3 rfl) ?_
            refine lv_icmp_eq (tgt := 44) hx hb dX0_handlerFor_32 (by decide) (fun c_13 => ?_) (fun c_13 => ?_)
            · skip
              refine lv_aload_n hx hb dX0_handlerFor_44 rfl (lv_at hl 1 rfl) ?_
              refine s_get (a := cm + 2) (b := 0) (ci := 0) X hw (c_cell hm 0 _ _ _) rfl gX0 7 (by decide) fl_X0_25 rfl rfl dX0_handlerFor_45 ?_
              refine lv_iload_n hx hb dX0_handlerFor_48 rfl (lv_at hl 0 rfl) ?_
              refine s_iald (n := 6) (k := t) X hw (c_cell hm 5 _ _ _) f1 (by omega) (by decide) dX0_handlerFor_49 ?_
              exact m_iret X hr hlk hw hS (Nat.le_of_ble_eq_true rfl) (Nat.le_of_ble_eq_true rfl) ⟨rfl, rfl⟩ dX0_handlerFor_50
            · skip
              refine lv_aload_n hx hb dX0_handlerFor_35 rfl (lv_at hl 1 rfl) ?_
              refine s_get (a := cm + 2) (b := 0) (ci := 0) X hw (c_cell hm 0 _ _ _) rfl gX0 8 (by decide) fl_X0_28 rfl rfl dX0_handlerFor_36 ?_
              refine lv_iload_n hx hb dX0_handlerFor_39 rfl (lv_at hl 0 rfl) ?_
              refine s_iald (n := 6) (k := t) X hw (c_cell hm 6 _ _ _) f1 (by omega) (by decide) dX0_handlerFor_40 ?_
              refine lv_if_ne (tgt := 51) hx hb dX0_handlerFor_41 (by decide) (fun c_14 => ?_) (fun c_14 => ?_)
              · skip
                refine lv_iinc (v := j + 1) (lv' := [(3, .int (j + 1)), (0, .ref (L (nm (cm + 2) 0))), (1, .int v), (2, .int w)]) hx hb dX0_handlerFor_51 hl (k := 0) rfl rfl (by decide) rfl (fun ls hl => ?_)
                refine lv_goto (tgt := 2) hx hb dX0_handlerFor_54 (by decide) ?_
                exact ih (t + 1) _ _ _ ls (by omega) (nadd (a := t) (b := 1) f1 rfl) hw hS (lv_sub hl [0, 1, 2, 3] rfl)
              · skip
                refine lv_aload_n hx hb dX0_handlerFor_44 rfl (lv_at hl 1 rfl) ?_
                refine s_get (a := cm + 2) (b := 0) (ci := 0) X hw (c_cell hm 0 _ _ _) rfl gX0 7 (by decide) fl_X0_25 rfl rfl dX0_handlerFor_45 ?_
                refine lv_iload_n hx hb dX0_handlerFor_48 rfl (lv_at hl 0 rfl) ?_
                refine s_iald (n := 6) (k := t) X hw (c_cell hm 5 _ _ _) f1 (by omega) (by decide) dX0_handlerFor_49 ?_
                exact m_iret X hr hlk hw hS (Nat.le_of_ble_eq_true rfl) (Nat.le_of_ble_eq_true rfl) ⟨rfl, rfl⟩ dX0_handlerFor_50
  refine lv_iconst (v := 0) hx hb dX0_handlerFor_0 (by decide) ?_
  refine lv_istore_n (lv' := [(3, .int 0), (0, .ref (L (nm (cm + 2) 0))), (1, .int v), (2, .int w)]) hx hb dX0_handlerFor_1 rfl hl (by decide) rfl (fun ls hl => ?_)
  exact KL 6 0 _ _ _ ls rfl rfl hw hS (lv_sub hl [0, 1, 2, 3] rfl)
theorem v_X0_called : mVm yX0_called cX0_called 3 (some .int) 0 := ⟨cd_X0_called, im_X0_called, se_X0_called, ini_X0, by decide, by decide, by decide +kernel⟩
set_option maxHeartbeats 4000000 in
set_option maxRecDepth 100000 in
theorem k_X0_called (Γ : mG) (l : Launch) (L : mI → Nat) (x : CS) (cm : Nat)  (hI : CInv x) (hm : cm < cN x) : mMet Γ l yX0_called cX0_called 3 (some .int) { frames := 0, cells := 0, slots := 0, locals := 0 } [.ref (L (nm (cm + 2) 0))] L (cM Γ L x) (mQi Γ (fun r L1 M1 => L1 = L ∧ M1 = cM Γ L x)) := by
  refine m_start (by decide) (Nat.le_of_ble_eq_true rfl) ?_
  intro p e s m args below meth c A ls X hr hlk hnm hw hS hl
  have hx := X.1.1
  have hb := X.1.2.1
  have hl : lv_has ls 3 [(0, .ref (L (nm (cm + 2) 0)))] := hl
  have KL : ∀ (n : Nat) (t : Nat) (j z : Int32) (H : Heap) (locs : List Loc) (ls : Array Slot), t + n = 40 → j = nI t → mW Γ.1 vwCl A L (cM Γ L (x)) H → va_S A s.heap H locs → lv_has ls 3 [(2, .int j), (1, .int z), (0, .ref (L (nm (cm + 2) 0)))] → W p l e { frames := 0, cells := 0, slots := 0, locals := 0 } s m args below meth c H locs 0 0 (MQ below (mQi Γ (fun r L1 M1 => L1 = L ∧ M1 = cM Γ L x) A) args s 0 0 A) (F0 m 4 ls []) := by
    intro n
    induction n with
    | zero =>
      intro t j z H locs ls f0 f1 hw hS hl
      refine lv_iload_n hx hb dX0_called_4 rfl (lv_at hl 0 rfl) ?_
      refine lv_aload_n hx hb dX0_called_5 rfl (lv_at hl 2 rfl) ?_
      refine s_get (a := cm + 2) (b := 0) (ci := 0) X hw (c_cell hm 0 _ _ _) rfl gX0 4 (by decide) fl_X0_44 rfl rfl dX0_called_6 ?_
      obtain ⟨z_1, hz_1, ez_1⟩ := (hI.2.1 cm hm).2.1
      refine lv_icmp_ge (tgt := 73) hx hb dX0_called_9 (by decide) (fun c_2 => ?_) (fun c_2 => ?_)
      · skip
        have c_2n : t ≥ z_1 := ngeT (a := t) (b := z_1) f1 ez_1 (by omega) (by omega) c_2
        have c_2m : ¬ t < z_1 := by omega
        refine lv_iload_n hx hb dX0_called_73 rfl (lv_at hl 1 rfl) ?_
        exact m_iret X hr hlk hw hS (Nat.le_of_ble_eq_true rfl) (Nat.le_of_ble_eq_true rfl) ⟨rfl, rfl⟩ dX0_called_74
      · skip
        have c_2n : ¬ t ≥ z_1 := ngeF (a := t) (b := z_1) f1 ez_1 (by omega) (by omega) c_2
        have c_2m : t < z_1 := by omega
        refine lv_iload_n hx hb dX0_called_12 rfl (lv_at hl 0 rfl) ?_
        refine lv_bipush (v := 40) hx hb dX0_called_13 (by decide) ?_
        refine lv_icmp_ge (tgt := 73) hx hb dX0_called_15 (by decide) (fun c_3 => ?_) (fun c_3 => ?_)
        · skip
          have c_3n : t ≥ 40 := ngeT (a := t) (b := 40) f1 rfl (by omega) (by omega) c_3
          have c_3m : ¬ t < 40 := by omega
          refine lv_iload_n hx hb dX0_called_73 rfl (lv_at hl 1 rfl) ?_
          exact m_iret X hr hlk hw hS (Nat.le_of_ble_eq_true rfl) (Nat.le_of_ble_eq_true rfl) ⟨rfl, rfl⟩ dX0_called_74
        · skip
          have c_3n : ¬ t ≥ 40 := ngeF (a := t) (b := 40) f1 rfl (by omega) (by omega) c_3
          have c_3m : t < 40 := by omega
          refine lv_aload_n hx hb dX0_called_18 rfl (lv_at hl 2 rfl) ?_
          refine s_get (a := cm + 2) (b := 0) (ci := 0) X hw (c_cell hm 0 _ _ _) rfl gX0 2 (by decide) fl_X0_11 rfl rfl dX0_called_19 ?_
          refine lv_iload_n hx hb dX0_called_22 rfl (lv_at hl 0 rfl) ?_
          refine s_iald (n := 40) (k := t) X hw (c_cell hm 1 _ _ _) f1 (by omega) (by decide) dX0_called_23 ?_
          refine lv_bipush (v := 33) hx hb dX0_called_24 (by decide) ?_
          refine lv_icmp_ne (tgt := 67) hx hb dX0_called_26 (by decide) (fun c_4 => ?_) (fun c_4 => ?_)
          · skip
            refine lv_iinc (v := j + 1) (lv' := [(2, .int (j + 1)), (1, .int z), (0, .ref (L (nm (cm + 2) 0)))]) hx hb dX0_called_67 hl (k := 0) rfl rfl (by decide) rfl (fun ls hl => ?_)
            refine lv_goto (tgt := 4) hx hb dX0_called_70 (by decide) ?_
            exact (by omega : False).elim
          · skip
            refine lv_aload_n hx hb dX0_called_29 rfl (lv_at hl 2 rfl) ?_
            refine s_get (a := cm + 2) (b := 0) (ci := 0) X hw (c_cell hm 0 _ _ _) rfl gX0 3 (by decide) fl_X0_15 rfl rfl dX0_called_30 ?_
            refine lv_iload_n hx hb dX0_called_33 rfl (lv_at hl 0 rfl) ?_
            refine s_lald (n := 40) (k := t) X hw (c_cell hm 2 _ _ _) f1 (by omega) (by decide) dX0_called_34 ?_
            refine lv_lconst (v := 0) hx hb dX0_called_35 (by decide) ?_
            refine m_lcmp_lt (tgt := 67) hx hb dX0_called_36 dX0_called_37 (by decide) (fun c_5 => ?_) (fun c_5 => ?_)
            · skip
              refine lv_iinc (v := j + 1) (lv' := [(2, .int (j + 1)), (1, .int z), (0, .ref (L (nm (cm + 2) 0)))]) hx hb dX0_called_67 hl (k := 0) rfl rfl (by decide) rfl (fun ls hl => ?_)
              refine lv_goto (tgt := 4) hx hb dX0_called_70 (by decide) ?_
              exact (by omega : False).elim
            · skip
              refine lv_aload_n hx hb dX0_called_40 rfl (lv_at hl 2 rfl) ?_
              refine s_get (a := cm + 2) (b := 0) (ci := 0) X hw (c_cell hm 0 _ _ _) rfl gX0 3 (by decide) fl_X0_15 rfl rfl dX0_called_41 ?_
              refine lv_iload_n hx hb dX0_called_44 rfl (lv_at hl 0 rfl) ?_
              refine s_lald (n := 40) (k := t) X hw (c_cell hm 2 _ _ _) f1 (by omega) (by decide) dX0_called_45 ?_
              refine lv_aload_n hx hb dX0_called_46 rfl (lv_at hl 2 rfl) ?_
              refine s_get (a := cm + 2) (b := 0) (ci := 0) X hw (c_cell hm 0 _ _ _) rfl gX0 0 (by decide) fl_X0_37 rfl rfl dX0_called_47 ?_
              refine lv_i2l (v := (nI cm).toInt64) hx hb dX0_called_50 rfl ?_
              refine m_lcmp_ge (tgt := 67) hx hb dX0_called_51 dX0_called_52 (by decide) (fun c_6 => ?_) (fun c_6 => ?_)
              · skip
                refine lv_iinc (v := j + 1) (lv' := [(2, .int (j + 1)), (1, .int z), (0, .ref (L (nm (cm + 2) 0)))]) hx hb dX0_called_67 hl (k := 0) rfl rfl (by decide) rfl (fun ls hl => ?_)
                refine lv_goto (tgt := 4) hx hb dX0_called_70 (by decide) ?_
                exact (by omega : False).elim
              · skip
                refine lv_iload_n hx hb dX0_called_55 rfl (lv_at hl 1 rfl) ?_
                refine lv_iconst (v := 1) hx hb dX0_called_56 (by decide) ?_
                refine lv_aload_n hx hb dX0_called_57 rfl (lv_at hl 2 rfl) ?_
                refine s_get (a := cm + 2) (b := 0) (ci := 0) X hw (c_cell hm 0 _ _ _) rfl gX0 3 (by decide) fl_X0_15 rfl rfl dX0_called_58 ?_
                refine lv_iload_n hx hb dX0_called_61 rfl (lv_at hl 0 rfl) ?_
                refine s_lald (n := 40) (k := t) X hw (c_cell hm 2 _ _ _) f1 (by omega) (by decide) dX0_called_62 ?_
                refine lv_l2i (v := (x.2.2.1 (cm + 2) 2 t).toInt32) hx hb dX0_called_63 rfl ?_
                refine lv_ishl hx hb dX0_called_64 ?_
                refine lv_ior hx hb dX0_called_65 ?_
                refine lv_istore_n (lv' := [(1, .int (z ||| (1 <<< (((x.2.2.1 (cm + 2) 2 t).toInt32) &&& 31)))), (2, .int j), (0, .ref (L (nm (cm + 2) 0)))]) hx hb dX0_called_66 rfl hl (by decide) rfl (fun ls hl => ?_)
                refine lv_iinc (v := j + 1) (lv' := [(2, .int (j + 1)), (1, .int (z ||| (1 <<< (((x.2.2.1 (cm + 2) 2 t).toInt32) &&& 31)))), (0, .ref (L (nm (cm + 2) 0)))]) hx hb dX0_called_67 hl (k := 1) rfl rfl (by decide) rfl (fun ls hl => ?_)
                refine lv_goto (tgt := 4) hx hb dX0_called_70 (by decide) ?_
                exact (by omega : False).elim
    | succ n ih =>
      intro t j z H locs ls f0 f1 hw hS hl
      refine lv_iload_n hx hb dX0_called_4 rfl (lv_at hl 0 rfl) ?_
      refine lv_aload_n hx hb dX0_called_5 rfl (lv_at hl 2 rfl) ?_
      refine s_get (a := cm + 2) (b := 0) (ci := 0) X hw (c_cell hm 0 _ _ _) rfl gX0 4 (by decide) fl_X0_44 rfl rfl dX0_called_6 ?_
      obtain ⟨z_7, hz_7, ez_7⟩ := (hI.2.1 cm hm).2.1
      refine lv_icmp_ge (tgt := 73) hx hb dX0_called_9 (by decide) (fun c_8 => ?_) (fun c_8 => ?_)
      · skip
        have c_8n : t ≥ z_7 := ngeT (a := t) (b := z_7) f1 ez_7 (by omega) (by omega) c_8
        have c_8m : ¬ t < z_7 := by omega
        refine lv_iload_n hx hb dX0_called_73 rfl (lv_at hl 1 rfl) ?_
        exact m_iret X hr hlk hw hS (Nat.le_of_ble_eq_true rfl) (Nat.le_of_ble_eq_true rfl) ⟨rfl, rfl⟩ dX0_called_74
      · skip
        have c_8n : ¬ t ≥ z_7 := ngeF (a := t) (b := z_7) f1 ez_7 (by omega) (by omega) c_8
        have c_8m : t < z_7 := by omega
        refine lv_iload_n hx hb dX0_called_12 rfl (lv_at hl 0 rfl) ?_
        refine lv_bipush (v := 40) hx hb dX0_called_13 (by decide) ?_
        refine lv_icmp_ge (tgt := 73) hx hb dX0_called_15 (by decide) (fun c_9 => ?_) (fun c_9 => ?_)
        · skip
          have c_9n : t ≥ 40 := ngeT (a := t) (b := 40) f1 rfl (by omega) (by omega) c_9
          have c_9m : ¬ t < 40 := by omega
          refine lv_iload_n hx hb dX0_called_73 rfl (lv_at hl 1 rfl) ?_
          exact m_iret X hr hlk hw hS (Nat.le_of_ble_eq_true rfl) (Nat.le_of_ble_eq_true rfl) ⟨rfl, rfl⟩ dX0_called_74
        · skip
          have c_9n : ¬ t ≥ 40 := ngeF (a := t) (b := 40) f1 rfl (by omega) (by omega) c_9
          have c_9m : t < 40 := by omega
          refine lv_aload_n hx hb dX0_called_18 rfl (lv_at hl 2 rfl) ?_
          refine s_get (a := cm + 2) (b := 0) (ci := 0) X hw (c_cell hm 0 _ _ _) rfl gX0 2 (by decide) fl_X0_11 rfl rfl dX0_called_19 ?_
          refine lv_iload_n hx hb dX0_called_22 rfl (lv_at hl 0 rfl) ?_
          refine s_iald (n := 40) (k := t) X hw (c_cell hm 1 _ _ _) f1 (by omega) (by decide) dX0_called_23 ?_
          refine lv_bipush (v := 33) hx hb dX0_called_24 (by decide) ?_
          refine lv_icmp_ne (tgt := 67) hx hb dX0_called_26 (by decide) (fun c_10 => ?_) (fun c_10 => ?_)
          · skip
            refine lv_iinc (v := j + 1) (lv' := [(2, .int (j + 1)), (1, .int z), (0, .ref (L (nm (cm + 2) 0)))]) hx hb dX0_called_67 hl (k := 0) rfl rfl (by decide) rfl (fun ls hl => ?_)
            refine lv_goto (tgt := 4) hx hb dX0_called_70 (by decide) ?_
            exact ih (t + 1) _ _ _ _ ls (by omega) (nadd (a := t) (b := 1) f1 rfl) hw hS (lv_sub hl [0, 1, 2] rfl)
          · skip
            refine lv_aload_n hx hb dX0_called_29 rfl (lv_at hl 2 rfl) ?_
            refine s_get (a := cm + 2) (b := 0) (ci := 0) X hw (c_cell hm 0 _ _ _) rfl gX0 3 (by decide) fl_X0_15 rfl rfl dX0_called_30 ?_
            refine lv_iload_n hx hb dX0_called_33 rfl (lv_at hl 0 rfl) ?_
            refine s_lald (n := 40) (k := t) X hw (c_cell hm 2 _ _ _) f1 (by omega) (by decide) dX0_called_34 ?_
            refine lv_lconst (v := 0) hx hb dX0_called_35 (by decide) ?_
            refine m_lcmp_lt (tgt := 67) hx hb dX0_called_36 dX0_called_37 (by decide) (fun c_11 => ?_) (fun c_11 => ?_)
            · skip
              refine lv_iinc (v := j + 1) (lv' := [(2, .int (j + 1)), (1, .int z), (0, .ref (L (nm (cm + 2) 0)))]) hx hb dX0_called_67 hl (k := 0) rfl rfl (by decide) rfl (fun ls hl => ?_)
              refine lv_goto (tgt := 4) hx hb dX0_called_70 (by decide) ?_
              exact ih (t + 1) _ _ _ _ ls (by omega) (nadd (a := t) (b := 1) f1 rfl) hw hS (lv_sub hl [0, 1, 2] rfl)
            · skip
              refine lv_aload_n hx hb dX0_called_40 rfl (lv_at hl 2 rfl) ?_
              refine s_get (a := cm + 2) (b := 0) (ci := 0) X hw (c_cell hm 0 _ _ _) rfl gX0 3 (by decide) fl_X0_15 rfl rfl dX0_called_41 ?_
              refine lv_iload_n hx hb dX0_called_44 rfl (lv_at hl 0 rfl) ?_
              refine s_lald (n := 40) (k := t) X hw (c_cell hm 2 _ _ _) f1 (by omega) (by decide) dX0_called_45 ?_
              refine lv_aload_n hx hb dX0_called_46 rfl (lv_at hl 2 rfl) ?_
              refine s_get (a := cm + 2) (b := 0) (ci := 0) X hw (c_cell hm 0 _ _ _) rfl gX0 0 (by decide) fl_X0_37 rfl rfl dX0_called_47 ?_
              refine lv_i2l (v := (nI cm).toInt64) hx hb dX0_called_50 rfl ?_
              refine m_lcmp_ge (tgt := 67) hx hb dX0_called_51 dX0_called_52 (by decide) (fun c_12 => ?_) (fun c_12 => ?_)
              · skip
                refine lv_iinc (v := j + 1) (lv' := [(2, .int (j + 1)), (1, .int z), (0, .ref (L (nm (cm + 2) 0)))]) hx hb dX0_called_67 hl (k := 0) rfl rfl (by decide) rfl (fun ls hl => ?_)
                refine lv_goto (tgt := 4) hx hb dX0_called_70 (by decide) ?_
                exact ih (t + 1) _ _ _ _ ls (by omega) (nadd (a := t) (b := 1) f1 rfl) hw hS (lv_sub hl [0, 1, 2] rfl)
              · skip
                refine lv_iload_n hx hb dX0_called_55 rfl (lv_at hl 1 rfl) ?_
                refine lv_iconst (v := 1) hx hb dX0_called_56 (by decide) ?_
                refine lv_aload_n hx hb dX0_called_57 rfl (lv_at hl 2 rfl) ?_
                refine s_get (a := cm + 2) (b := 0) (ci := 0) X hw (c_cell hm 0 _ _ _) rfl gX0 3 (by decide) fl_X0_15 rfl rfl dX0_called_58 ?_
                refine lv_iload_n hx hb dX0_called_61 rfl (lv_at hl 0 rfl) ?_
                refine s_lald (n := 40) (k := t) X hw (c_cell hm 2 _ _ _) f1 (by omega) (by decide) dX0_called_62 ?_
                refine lv_l2i (v := (x.2.2.1 (cm + 2) 2 t).toInt32) hx hb dX0_called_63 rfl ?_
                refine lv_ishl hx hb dX0_called_64 ?_
                refine lv_ior hx hb dX0_called_65 ?_
                refine lv_istore_n (lv' := [(1, .int (z ||| (1 <<< (((x.2.2.1 (cm + 2) 2 t).toInt32) &&& 31)))), (2, .int j), (0, .ref (L (nm (cm + 2) 0)))]) hx hb dX0_called_66 rfl hl (by decide) rfl (fun ls hl => ?_)
                refine lv_iinc (v := j + 1) (lv' := [(2, .int (j + 1)), (1, .int (z ||| (1 <<< (((x.2.2.1 (cm + 2) 2 t).toInt32) &&& 31)))), (0, .ref (L (nm (cm + 2) 0)))]) hx hb dX0_called_67 hl (k := 1) rfl rfl (by decide) rfl (fun ls hl => ?_)
                refine lv_goto (tgt := 4) hx hb dX0_called_70 (by decide) ?_
                exact ih (t + 1) _ _ _ _ ls (by omega) (nadd (a := t) (b := 1) f1 rfl) hw hS (lv_sub hl [0, 1, 2] rfl)
  refine lv_iconst (v := 0) hx hb dX0_called_0 (by decide) ?_
  refine lv_istore_n (lv' := [(1, .int 0), (0, .ref (L (nm (cm + 2) 0)))]) hx hb dX0_called_1 rfl hl (by decide) rfl (fun ls hl => ?_)
  refine lv_iconst (v := 0) hx hb dX0_called_2 (by decide) ?_
  refine lv_istore_n (lv' := [(2, .int 0), (1, .int 0), (0, .ref (L (nm (cm + 2) 0)))]) hx hb dX0_called_3 rfl hl (by decide) rfl (fun ls hl => ?_)
  exact KL 40 0 _ _ _ _ ls rfl rfl hw hS (lv_sub hl [0, 1, 2] rfl)
theorem v_X0_addInstruction : mVm yX0_addInstruction cX0_addInstruction 4 (some .int) 2 := ⟨cd_X0_addInstruction, im_X0_addInstruction, se_X0_addInstruction, ini_X0, by decide, by decide, by decide +kernel⟩
set_option maxHeartbeats 4000000 in
set_option maxRecDepth 100000 in
theorem k_X0_addInstruction (Γ : mG) (l : Launch) (L : mI → Nat) (x : CS) (cm : Nat) (w : Int32) (v : Int64) (hI : CInv x) (hm : cm < cN x) : mMet Γ l yX0_addInstruction cX0_addInstruction 4 (some .int) { frames := 0, cells := 0, slots := 0, locals := 0 } [.ref (L (nm (cm + 2) 0)), .int w, .long v] L (cM Γ L x) (mQi Γ (fun r L1 M1 => ∃ k, k ≤ 40 ∧ x.1 (cm + 2) 0 4 = nI k ∧ L1 = L ∧ ((k = 40 ∧ r = -3 ∧ M1 = cM Γ L x) ∨ (k < 40 ∧ r = nI k ∧ M1 = cM Γ L (tS (tS (tJ (tV x (cm + 2) 1 k w) (cm + 2) 2 k v) (cm + 2) 0 11 0) (cm + 2) 0 4 (nI (k + 1))))))) := by
  refine m_start (by decide) (Nat.le_of_ble_eq_true rfl) ?_
  intro p e s m args below meth c A ls X hr hlk hnm hw hS hl
  have hx := X.1.1
  have hb := X.1.2.1
  have hl : lv_has ls 4 [(0, .ref (L (nm (cm + 2) 0))), (1, .int w), (2, .long v)] := hl
  obtain ⟨k, hk, ek⟩ := (hI.2.1 cm hm).2.1
  refine lv_aload_n hx hb dX0_addInstruction_0 rfl (lv_at hl 0 rfl) ?_
  refine s_get (a := cm + 2) (b := 0) (ci := 0) X hw (c_cell hm 0 _ _ _) rfl gX0 4 (by decide) fl_X0_44 rfl rfl dX0_addInstruction_1 ?_
  refine lv_bipush (v := 40) hx hb dX0_addInstruction_4 (by decide) ?_
  refine lv_icmp_lt (tgt := 12) hx hb dX0_addInstruction_6 (by decide) (fun c_1 => ?_) (fun c_1 => ?_)
  · skip
    have c_1n : k < 40 := nltT (a := k) (b := 40) ek rfl (by omega) (by omega) c_1
    have c_1m : ¬ 40 ≤ k := by omega
    refine lv_aload_n hx hb dX0_addInstruction_12 rfl (lv_at hl 0 rfl) ?_
    refine s_get (a := cm + 2) (b := 0) (ci := 0) X hw (c_cell hm 0 _ _ _) rfl gX0 2 (by decide) fl_X0_11 rfl rfl dX0_addInstruction_13 ?_
    refine lv_aload_n hx hb dX0_addInstruction_16 rfl (lv_at hl 0 rfl) ?_
    refine s_get (a := cm + 2) (b := 0) (ci := 0) X hw (c_cell hm 0 _ _ _) rfl gX0 4 (by decide) fl_X0_44 rfl rfl dX0_addInstruction_17 ?_
    refine lv_iload_n hx hb dX0_addInstruction_20 rfl (lv_at hl 1 rfl) ?_
    refine s_iast (n := 40) (k := k) (v := w) X hw hS (fun _ => c_cell hm 1 _ _ _) ek (by omega) (by decide) dX0_addInstruction_21 (fun H locs hw hS => ?_)
    refine lv_aload_n hx hb dX0_addInstruction_22 rfl (lv_at hl 0 rfl) ?_
    refine s_get (a := cm + 2) (b := 0) (ci := 0) X hw (c_cell hm 0 _ _ _) rfl gX0 3 (by decide) fl_X0_15 rfl rfl dX0_addInstruction_23 ?_
    refine lv_aload_n hx hb dX0_addInstruction_26 rfl (lv_at hl 0 rfl) ?_
    refine s_get (a := cm + 2) (b := 0) (ci := 0) X hw (c_cell hm 0 _ _ _) rfl gX0 4 (by decide) fl_X0_44 rfl rfl dX0_addInstruction_27 ?_
    refine lv_lload_n hx hb dX0_addInstruction_30 rfl (lv_at hl 2 rfl) ?_
    refine s_last (n := 40) (k := k) (v := v) X hw hS (fun _ => c_cell hm 2 _ _ _) ek (by omega) (by decide) dX0_addInstruction_31 (fun H locs hw hS => ?_)
    refine lv_aload_n hx hb dX0_addInstruction_32 rfl (lv_at hl 0 rfl) ?_
    refine lv_iconst (v := 0) hx hb dX0_addInstruction_33 (by decide) ?_
    refine s_put (a := cm + 2) (b := 0) (v := 0) (ci := 0) (ty := tyX0 11) X hw hS 11 (c_cell hm 0 _ _ _) (c_cell hm 0 _ _ _) rfl gX0 tyX0 tyX0_ok nmX0 (by decide) fl_X0_47 rfl rfl (tyX0_ok 11 (by decide)) rfl rfl (show 11 < 12 by decide) dX0_addInstruction_34 (fun H locs hw hS => ?_)
    refine lv_aload_n hx hb dX0_addInstruction_37 rfl (lv_at hl 0 rfl) ?_
    refine lv_dup hx hb dX0_addInstruction_38 rfl ?_
    refine s_get (a := cm + 2) (b := 0) (ci := 0) X hw (c_cell hm 0 _ _ _) rfl gX0 4 (by decide) fl_X0_44 rfl rfl dX0_addInstruction_39 ?_
    refine lv_iconst (v := 1) hx hb dX0_addInstruction_42 (by decide) ?_
    refine lv_iadd hx hb dX0_addInstruction_43 ?_
    refine lv_topi (fun v_2 ev_2 => ?_)
    obtain rfl : v_2 = nI (k + 1) := ev_2.trans (nadd (a := k) (b := 1) ((tS_rd (by omega)).trans ek) rfl)
    clear ev_2
    refine s_put (a := cm + 2) (b := 0) (v := nI (k + 1)) (ci := 0) (ty := tyX0 4) X hw hS 4 (c_cell hm 0 _ _ _) (c_cell hm 0 _ _ _) rfl gX0 tyX0 tyX0_ok nmX0 (by decide) fl_X0_44 rfl rfl (tyX0_ok 4 (by decide)) rfl rfl (show 4 < 12 by decide) dX0_addInstruction_44 (fun H locs hw hS => ?_)
    refine lv_aload_n hx hb dX0_addInstruction_47 rfl (lv_at hl 0 rfl) ?_
    refine s_get (a := cm + 2) (b := 0) (ci := 0) X hw (c_cell hm 0 _ _ _) rfl gX0 4 (by decide) fl_X0_44 rfl rfl dX0_addInstruction_48 ?_
    refine lv_iconst (v := 1) hx hb dX0_addInstruction_51 (by decide) ?_
    refine lv_isub hx hb dX0_addInstruction_52 ?_
    exact m_iret X hr hlk hw hS (Nat.le_of_ble_eq_true rfl) (Nat.le_of_ble_eq_true rfl) ⟨k, hk, ek, rfl, Or.inr ⟨by omega, (by rw [tS_self]; exact nsub (a := k + 1) (b := 1) (by omega) rfl rfl), rfl⟩⟩ dX0_addInstruction_53
  · skip
    have c_1n : ¬ k < 40 := nltF (a := k) (b := 40) ek rfl (by omega) (by omega) c_1
    have c_1m : 40 ≤ k := by omega
    refine lv_bipush (v := (-3)) hx hb dX0_addInstruction_9 (by decide) ?_
    exact m_iret X hr hlk hw hS (Nat.le_of_ble_eq_true rfl) (Nat.le_of_ble_eq_true rfl) ⟨k, hk, ek, rfl, Or.inl ⟨by omega, rfl, rfl⟩⟩ dX0_addInstruction_11
theorem v_X0_addHandler : mVm yX0_addHandler cX0_addHandler 5 (some .int) 4 := ⟨cd_X0_addHandler, im_X0_addHandler, se_X0_addHandler, ini_X0, by decide, by decide, by decide +kernel⟩
set_option maxHeartbeats 4000000 in
set_option maxRecDepth 100000 in
theorem k_X0_addHandler (Γ : mG) (l : Launch) (L : mI → Nat) (x : CS) (cm : Nat) (f : Int32) (t : Int32) (w : Int32) (y : Int32) (hI : CInv x) (hm : cm < cN x) : mMet Γ l yX0_addHandler cX0_addHandler 5 (some .int) { frames := 0, cells := 0, slots := 0, locals := 0 } [.ref (L (nm (cm + 2) 0)), .int f, .int t, .int w, .int y] L (cM Γ L x) (mQi Γ (fun r L1 M1 => ∃ k, k ≤ 6 ∧ x.1 (cm + 2) 0 9 = nI k ∧ L1 = L ∧ ((k = 6 ∧ r = -3 ∧ M1 = cM Γ L x) ∨ (k < 6 ∧ r = nI (k + 1) ∧ M1 = cM Γ L (tS (tS (tV (tV (tV (tV x (cm + 2) 3 k f) (cm + 2) 4 k t) (cm + 2) 5 k w) (cm + 2) 6 k y) (cm + 2) 0 11 0) (cm + 2) 0 9 (nI (k + 1))))))) := by
  refine m_start (by decide) (Nat.le_of_ble_eq_true rfl) ?_
  intro p e s m args below meth c A ls X hr hlk hnm hw hS hl
  have hx := X.1.1
  have hb := X.1.2.1
  have hl : lv_has ls 5 [(0, .ref (L (nm (cm + 2) 0))), (1, .int f), (2, .int t), (3, .int w), (4, .int y)] := hl
  obtain ⟨k, hk, ek⟩ := (hI.2.1 cm hm).2.2
  refine lv_aload_n hx hb dX0_addHandler_0 rfl (lv_at hl 0 rfl) ?_
  refine s_get (a := cm + 2) (b := 0) (ci := 0) X hw (c_cell hm 0 _ _ _) rfl gX0 9 (by decide) fl_X0_51 rfl rfl dX0_addHandler_1 ?_
  refine lv_bipush (v := 6) hx hb dX0_addHandler_4 (by decide) ?_
  refine lv_icmp_lt (tgt := 12) hx hb dX0_addHandler_6 (by decide) (fun c_1 => ?_) (fun c_1 => ?_)
  · skip
    have c_1n : k < 6 := nltT (a := k) (b := 6) ek rfl (by omega) (by omega) c_1
    have c_1m : ¬ 6 ≤ k := by omega
    refine lv_aload_n hx hb dX0_addHandler_12 rfl (lv_at hl 0 rfl) ?_
    refine s_get (a := cm + 2) (b := 0) (ci := 0) X hw (c_cell hm 0 _ _ _) rfl gX0 5 (by decide) fl_X0_19 rfl rfl dX0_addHandler_13 ?_
    refine lv_aload_n hx hb dX0_addHandler_16 rfl (lv_at hl 0 rfl) ?_
    refine s_get (a := cm + 2) (b := 0) (ci := 0) X hw (c_cell hm 0 _ _ _) rfl gX0 9 (by decide) fl_X0_51 rfl rfl dX0_addHandler_17 ?_
    refine lv_iload_n hx hb dX0_addHandler_20 rfl (lv_at hl 1 rfl) ?_
    refine s_iast (n := 6) (k := k) (v := f) X hw hS (fun _ => c_cell hm 3 _ _ _) ek (by omega) (by decide) dX0_addHandler_21 (fun H locs hw hS => ?_)
    refine lv_aload_n hx hb dX0_addHandler_22 rfl (lv_at hl 0 rfl) ?_
    refine s_get (a := cm + 2) (b := 0) (ci := 0) X hw (c_cell hm 0 _ _ _) rfl gX0 6 (by decide) fl_X0_22 rfl rfl dX0_addHandler_23 ?_
    refine lv_aload_n hx hb dX0_addHandler_26 rfl (lv_at hl 0 rfl) ?_
    refine s_get (a := cm + 2) (b := 0) (ci := 0) X hw (c_cell hm 0 _ _ _) rfl gX0 9 (by decide) fl_X0_51 rfl rfl dX0_addHandler_27 ?_
    refine lv_iload_n hx hb dX0_addHandler_30 rfl (lv_at hl 2 rfl) ?_
    refine s_iast (n := 6) (k := k) (v := t) X hw hS (fun _ => c_cell hm 4 _ _ _) ek (by omega) (by decide) dX0_addHandler_31 (fun H locs hw hS => ?_)
    refine lv_aload_n hx hb dX0_addHandler_32 rfl (lv_at hl 0 rfl) ?_
    refine s_get (a := cm + 2) (b := 0) (ci := 0) X hw (c_cell hm 0 _ _ _) rfl gX0 7 (by decide) fl_X0_25 rfl rfl dX0_addHandler_33 ?_
    refine lv_aload_n hx hb dX0_addHandler_36 rfl (lv_at hl 0 rfl) ?_
    refine s_get (a := cm + 2) (b := 0) (ci := 0) X hw (c_cell hm 0 _ _ _) rfl gX0 9 (by decide) fl_X0_51 rfl rfl dX0_addHandler_37 ?_
    refine lv_iload_n hx hb dX0_addHandler_40 rfl (lv_at hl 3 rfl) ?_
    refine s_iast (n := 6) (k := k) (v := w) X hw hS (fun _ => c_cell hm 5 _ _ _) ek (by omega) (by decide) dX0_addHandler_41 (fun H locs hw hS => ?_)
    refine lv_aload_n hx hb dX0_addHandler_42 rfl (lv_at hl 0 rfl) ?_
    refine s_get (a := cm + 2) (b := 0) (ci := 0) X hw (c_cell hm 0 _ _ _) rfl gX0 8 (by decide) fl_X0_28 rfl rfl dX0_addHandler_43 ?_
    refine lv_aload_n hx hb dX0_addHandler_46 rfl (lv_at hl 0 rfl) ?_
    refine s_get (a := cm + 2) (b := 0) (ci := 0) X hw (c_cell hm 0 _ _ _) rfl gX0 9 (by decide) fl_X0_51 rfl rfl dX0_addHandler_47 ?_
    refine lv_iload hx hb dX0_addHandler_50 (lv_at hl 4 rfl) ?_
    refine s_iast (n := 6) (k := k) (v := y) X hw hS (fun _ => c_cell hm 6 _ _ _) ek (by omega) (by decide) dX0_addHandler_52 (fun H locs hw hS => ?_)
    refine lv_aload_n hx hb dX0_addHandler_53 rfl (lv_at hl 0 rfl) ?_
    refine lv_iconst (v := 0) hx hb dX0_addHandler_54 (by decide) ?_
    refine s_put (a := cm + 2) (b := 0) (v := 0) (ci := 0) (ty := tyX0 11) X hw hS 11 (c_cell hm 0 _ _ _) (c_cell hm 0 _ _ _) rfl gX0 tyX0 tyX0_ok nmX0 (by decide) fl_X0_47 rfl rfl (tyX0_ok 11 (by decide)) rfl rfl (show 11 < 12 by decide) dX0_addHandler_55 (fun H locs hw hS => ?_)
    refine lv_aload_n hx hb dX0_addHandler_58 rfl (lv_at hl 0 rfl) ?_
    refine lv_dup hx hb dX0_addHandler_59 rfl ?_
    refine s_get (a := cm + 2) (b := 0) (ci := 0) X hw (c_cell hm 0 _ _ _) rfl gX0 9 (by decide) fl_X0_51 rfl rfl dX0_addHandler_60 ?_
    refine lv_iconst (v := 1) hx hb dX0_addHandler_63 (by decide) ?_
    refine lv_iadd hx hb dX0_addHandler_64 ?_
    refine lv_topi (fun v_2 ev_2 => ?_)
    obtain rfl : v_2 = nI (k + 1) := ev_2.trans (nadd (a := k) (b := 1) ((tS_rd (by omega)).trans ek) rfl)
    clear ev_2
    refine s_put (a := cm + 2) (b := 0) (v := nI (k + 1)) (ci := 0) (ty := tyX0 9) X hw hS 9 (c_cell hm 0 _ _ _) (c_cell hm 0 _ _ _) rfl gX0 tyX0 tyX0_ok nmX0 (by decide) fl_X0_51 rfl rfl (tyX0_ok 9 (by decide)) rfl rfl (show 9 < 12 by decide) dX0_addHandler_65 (fun H locs hw hS => ?_)
    refine lv_aload_n hx hb dX0_addHandler_68 rfl (lv_at hl 0 rfl) ?_
    refine s_get (a := cm + 2) (b := 0) (ci := 0) X hw (c_cell hm 0 _ _ _) rfl gX0 9 (by decide) fl_X0_51 rfl rfl dX0_addHandler_69 ?_
    exact m_iret X hr hlk hw hS (Nat.le_of_ble_eq_true rfl) (Nat.le_of_ble_eq_true rfl) ⟨k, hk, ek, rfl, Or.inr ⟨by omega, (by rw [tS_self]), rfl⟩⟩ dX0_addHandler_72
  · skip
    have c_1n : ¬ k < 6 := nltF (a := k) (b := 6) ek rfl (by omega) (by omega) c_1
    have c_1m : 6 ≤ k := by omega
    refine lv_bipush (v := (-3)) hx hb dX0_addHandler_9 (by decide) ?_
    exact m_iret X hr hlk hw hS (Nat.le_of_ble_eq_true rfl) (Nat.le_of_ble_eq_true rfl) ⟨k, hk, ek, rfl, Or.inl ⟨by omega, rfl, rfl⟩⟩ dX0_addHandler_11
