/-! Places: two of them -/
def cpy16 (f g : Nat → Int32) : Nat → Int32 := va_cpy f g (0 : Int32).toNatClampNeg (0 : Int32).toNatClampNeg (16 : Int32).toNatClampNeg
theorem tS_tS {x : CS} {a b k : Nat} {v w : Int32} : tS (tS x a b k v) a b k w = tS x a b k w := by
  unfold tS
  show (up3 (up3 x.1 a b (upd (x.1 a b) k v)) a b (upd (up3 x.1 a b (upd (x.1 a b) k v) a b) k w), x.2) = _
  rw [up3_up3, up3_self, upd_upd]
theorem v_X6_copyFrom : mVm yX6_copyFrom cX6_copyFrom 2 none 1 := ⟨cd_X6_copyFrom, im_X6_copyFrom, se_X6_copyFrom, ini_X6, by decide, by decide, by decide +kernel⟩
set_option maxHeartbeats 4000000 in
set_option maxRecDepth 100000 in
theorem k_X6_copyFrom (Γ : mG) (l : Launch) (L : mI → Nat) (x : CS) (a b u v : Nat)  (hp : pOK x a b) (hp2 : pOK x u v) : mMet Γ l yX6_copyFrom cX6_copyFrom 2 none { frames := 1, cells := 0, slots := 0, locals := 20 } [.ref (L (nm a b)), .ref (L (nm u v))] L (cM Γ L x) (mQv Γ (fun L1 M1 => L1 = L ∧ M1 = cM Γ L (tS (tVs x a (b + 1) (cpy16 (x.2.1 u (v + 1)) (x.2.1 a (b + 1)))) a b 1 (x.1 u v 1)))) := by
  refine m_start (by decide) (Nat.le_of_ble_eq_true rfl) ?_
  intro p e s m args below meth c A ls X hr hlk hnm hw hS hl
  have hx := X.1.1
  have hb := X.1.2.1
  have hl : lv_has ls 2 [(0, .ref (L (nm a b))), (1, .ref (L (nm u v)))] := hl
  refine lv_aload_n hx hb dX6_copyFrom_0 rfl (lv_at hl 1 rfl) ?_
  refine q_getk X hw hp2 fl_X6_9 rfl dX6_copyFrom_1 ?_
  refine lv_iconst (v := 0) hx hb dX6_copyFrom_4 (by decide) ?_
  refine lv_aload_n hx hb dX6_copyFrom_5 rfl (lv_at hl 0 rfl) ?_
  refine q_getk X hw hp fl_X6_9 rfl dX6_copyFrom_6 ?_
  refine lv_iconst (v := 0) hx hb dX6_copyFrom_9 (by decide) ?_
  refine lv_bipush (v := 16) hx hb dX6_copyFrom_10 (by decide) ?_
  refine m_copyi (i0 := nm u (v + 1)) (i := nm a (b + 1)) (n0 := 16) (n1 := 16) X hw hS hl.1 ml_X6_23 (p_cell1 hp2 _ _ _) (p_cell1 hp _ _ _) (by decide) (by decide) (by decide) (by decide) (by decide) (Nat.le_of_ble_eq_true rfl) (Nat.le_of_ble_eq_true rfl) dX6_copyFrom_12 (fun H locs hw hS => ?_)
  rw [cU_Vs (p_cell1 hp _ _ _)] at hw
  have hw : mW Γ.1 vwCl A L (cM Γ L (tVs x a (b + 1) (cpy16 (x.2.1 u (v + 1)) (x.2.1 a (b + 1))))) H := hw
  refine lv_aload_n hx hb dX6_copyFrom_15 rfl (lv_at hl 0 rfl) ?_
  refine lv_aload_n hx hb dX6_copyFrom_16 rfl (lv_at hl 1 rfl) ?_
  refine q_getd X hw hp2 fl_X6_13 rfl dX6_copyFrom_17 ?_
  refine q_putd X hw hp hS fl_X6_13 rfl dX6_copyFrom_20 (fun H locs hw hS => ?_)
  exact m_vret X hr hlk hw hS (Nat.le_of_ble_eq_true rfl) (Nat.le_of_ble_eq_true rfl) ⟨rfl, rfl⟩ dX6_copyFrom_23
theorem v_X6_exchange : mVm yX6_exchange cX6_exchange 4 (some .int) 2 := ⟨cd_X6_exchange, im_X6_exchange, se_X6_exchange, ini_X6, by decide, by decide, by decide +kernel⟩
set_option maxHeartbeats 4000000 in
set_option maxRecDepth 100000 in
theorem k_X6_exchange (Γ : mG) (l : Launch) (L : mI → Nat) (x : CS) (a b : Nat) (h : Nat → Int32) (d : Nat) (k : Int32) (w : Int32) (hp : pOK x a b) (hd : d ≤ 8) : mMet Γ l yX6_exchange cX6_exchange 4 (some .int) { frames := 1, cells := 0, slots := 0, locals := 21 } [.ref (L (nm a b)), .int k, .int w] L (cM Γ L (sP x a b (h, d))) (mQi Γ (fun r L1 M1 => L1 = L ∧ ((p_has (nI d) k = false ∧ r = 0 ∧ M1 = cM Γ L (sP x a b (h, d))) ∨ ∃ n, n < 8 + d ∧ k = nI n ∧ r = h n ∧ M1 = cM Γ L (sP x a b (upd h n w, d))))) := by
  refine m_start (by decide) (Nat.le_of_ble_eq_true rfl) ?_
  intro p e s m args below meth c A ls X hr hlk hnm hw hS hl
  have hx := X.1.1
  have hb := X.1.2.1
  have hl : lv_has ls 4 [(0, .ref (L (nm a b))), (1, .int k), (2, .int w)] := hl
  refine lv_aload_n hx hb dX6_exchange_0 rfl (lv_at hl 0 rfl) ?_
  refine lv_iload_n hx hb dX6_exchange_1 rfl (lv_at hl 1 rfl) ?_
  refine m_calli (m_runV (i := nm a b) (ci := 4) (As := [.int k]) (rest := []) X (k_X6_has Γ l L (sP x a b (h, d)) a b k hp) v_X6_has ml_X6_29 hw hS (p_obj Γ L (c := sP x a b (h, d)) hp) rfl rfl rfl hl.1 ⟨Nat.le_of_ble_eq_true rfl, Nat.le_of_ble_eq_true rfl⟩ (Nat.le_of_ble_eq_true rfl) ⟨Nat.le_of_ble_eq_true rfl, Nat.le_of_ble_eq_true rfl⟩ dX6_exchange_2) hS (fun r_1 L1 M1 H locs hp_1 hw hS => ?_)
  obtain ⟨e0, e1, e2⟩ := hp_1
  rw [sP_dep] at e0
  subst e0; rw [e1, e2] at hw; clear e1 e2
  refine lv_if_ne (tgt := 10) hx hb dX6_exchange_5 (by decide) (fun c_2 => ?_) (fun c_2 => ?_)
  · skip
    have c_2 := bI_t c_2
    obtain ⟨kn, hkn, ek⟩ := has_nat hd c_2
    refine lv_aload_n hx hb dX6_exchange_10 rfl (lv_at hl 0 rfl) ?_
    refine p_getk X hw hp fl_X6_9 rfl dX6_exchange_11 ?_
    refine lv_iload_n hx hb dX6_exchange_14 rfl (lv_at hl 1 rfl) ?_
    refine p_ald (n := kn) X hw hp ek (by omega) dX6_exchange_15 ?_
    refine lv_istore_n (lv' := [(3, .int (h kn)), (0, .ref (L (nm a b))), (1, .int k), (2, .int w)]) hx hb dX6_exchange_16 rfl hl (by decide) rfl (fun ls hl => ?_)
    refine lv_aload_n hx hb dX6_exchange_17 rfl (lv_at hl 1 rfl) ?_
    refine p_getk X hw hp fl_X6_9 rfl dX6_exchange_18 ?_
    refine lv_iload_n hx hb dX6_exchange_21 rfl (lv_at hl 2 rfl) ?_
    refine lv_iload_n hx hb dX6_exchange_22 rfl (lv_at hl 3 rfl) ?_
    refine p_ast (n := kn) (v := w) X hw hp hS ek (by omega) dX6_exchange_23 (fun H locs hw hS => ?_)
    refine lv_iload_n hx hb dX6_exchange_24 rfl (lv_at hl 0 rfl) ?_
    exact m_iret X hr hlk hw hS (Nat.le_of_ble_eq_true rfl) (Nat.le_of_ble_eq_true rfl) ⟨rfl, Or.inr ⟨kn, hkn, ek, rfl, rfl⟩⟩ dX6_exchange_25
  · skip
    have c_2 := bI_f c_2
    refine lv_iconst (v := 0) hx hb dX6_exchange_8 (by decide) ?_
    exact m_iret X hr hlk hw hS (Nat.le_of_ble_eq_true rfl) (Nat.le_of_ble_eq_true rfl) ⟨rfl, Or.inl ⟨by assumption, rfl, rfl⟩⟩ dX6_exchange_9
theorem v_X6_becomeCaught : mVm yX6_becomeCaught cX6_becomeCaught 2 none 1 := ⟨cd_X6_becomeCaught, im_X6_becomeCaught, se_X6_becomeCaught, ini_X6, by decide, by decide, by decide +kernel⟩
set_option maxHeartbeats 4000000 in
set_option maxRecDepth 100000 in
theorem k_X6_becomeCaught (Γ : mG) (l : Launch) (L : mI → Nat) (x : CS) (a b u v : Nat)  (hp : pOK x a b) (hp2 : pOK x u v) : mMet Γ l yX6_becomeCaught cX6_becomeCaught 2 none { frames := 2, cells := 0, slots := 0, locals := 41 } [.ref (L (nm a b)), .ref (L (nm u v))] L (cM Γ L x) (mQv Γ (mPv Γ L x a b)) := by
  refine m_start (by decide) (Nat.le_of_ble_eq_true rfl) ?_
  intro p e s m args below meth c A ls X hr hlk hnm hw hS hl
  have hx := X.1.1
  have hb := X.1.2.1
  have hl : lv_has ls 2 [(0, .ref (L (nm a b))), (1, .ref (L (nm u v)))] := hl
  refine lv_aload_n hx hb dX6_becomeCaught_0 rfl (lv_at hl 0 rfl) ?_
  refine lv_aload_n hx hb dX6_becomeCaught_1 rfl (lv_at hl 1 rfl) ?_
  refine m_callv (m_runV (i := nm a b) (ci := 4) (As := [.ref (L (nm u v))]) (rest := []) X (k_X6_copyFrom Γ l L x a b u v hp hp2) v_X6_copyFrom ml_X6_33 hw hS (p_obj Γ L (c := x) hp) rfl rfl rfl hl.1 ⟨Nat.le_of_ble_eq_true rfl, Nat.le_of_ble_eq_true rfl⟩ (Nat.le_of_ble_eq_true rfl) ⟨Nat.le_of_ble_eq_true rfl, Nat.le_of_ble_eq_true rfl⟩ dX6_becomeCaught_2) hS (fun L1 M1 H locs hp_1 hw hS => ?_)
  obtain ⟨e1, e2⟩ := hp_1
  rw [e1, e2] at hw; clear e1 e2
  obtain ⟨g_1, eg_1⟩ : ∃ gz : Nat → Int32, gz = cpy16 (x.2.1 u (v + 1)) (x.2.1 a (b + 1)) := ⟨_, rfl⟩
  rw [← eg_1] at hw
  refine lv_aload_n hx hb dX6_becomeCaught_5 rfl (lv_at hl 0 rfl) ?_
  refine lv_iconst (v := 0) hx hb dX6_becomeCaught_6 (by decide) ?_
  refine q_putd X hw hp hS fl_X6_13 rfl dX6_becomeCaught_7 (fun H locs hw hS => ?_)
  rw [tS_tS] at hw
  have hw : mW Γ.1 vwCl A L (cM Γ L (sP x a b (g_1, 0))) H := hw
  refine lv_aload_n hx hb dX6_becomeCaught_10 rfl (lv_at hl 0 rfl) ?_
  refine lv_iconst (v := 1) hx hb dX6_becomeCaught_11 (by decide) ?_
  refine m_calli (m_runV (i := nm a b) (ci := 4) (As := [.int 1]) (rest := []) X (k_X6_push Γ l L x a b g_1 0 1 hp (by omega)) v_X6_push ml_X6_37 hw hS (p_obj Γ L (c := sP x a b (g_1, 0)) hp) rfl rfl rfl hl.1 ⟨Nat.le_of_ble_eq_true rfl, Nat.le_of_ble_eq_true rfl⟩ (Nat.le_of_ble_eq_true rfl) ⟨Nat.le_of_ble_eq_true rfl, Nat.le_of_ble_eq_true rfl⟩ dX6_becomeCaught_12) hS (fun r_2 L1 M1 H locs hp_2 hw hS => ?_)
  obtain ⟨⟨t_2, rfl⟩, ⟨h_2, d_2⟩, hd_2, e1, e2⟩ := hp_2
  have hd_2 : d_2 ≤ 8 := hd_2
  rw [e1, e2] at hw; clear e1 e2
  refine lv_pop hx hb dX6_becomeCaught_15 rfl ?_
  exact m_vret X hr hlk hw hS (Nat.le_of_ble_eq_true rfl) (Nat.le_of_ble_eq_true rfl) ⟨(h_2, d_2), by show d_2 ≤ 8; omega, rfl, rfl⟩ dX6_becomeCaught_16
theorem v_X6_goesTo : mVm yX6_goesTo cX6_goesTo 3 (some .boolean) 1 := ⟨cd_X6_goesTo, im_X6_goesTo, se_X6_goesTo, ini_X6, by decide, by decide, by decide +kernel⟩
set_option maxHeartbeats 4000000 in
set_option maxRecDepth 100000 in
theorem k_X6_goesTo (Γ : mG) (l : Launch) (L : mI → Nat) (x : CS) (a b u v : Nat)  (hp : pOK x a b) (hp2 : pOK x u v) : mMet Γ l yX6_goesTo cX6_goesTo 3 (some .boolean) { frames := 2, cells := 0, slots := 0, locals := 42 } [.ref (L (nm a b)), .ref (L (nm u v))] L (cM Γ L x) (mQi Γ (fun r L1 M1 => (∃ t : Bool, r = bI t) ∧ L1 = L ∧ M1 = cM Γ L x)) := by
  refine m_start (by decide) (Nat.le_of_ble_eq_true rfl) ?_
  intro p e s m args below meth c A ls X hr hlk hnm hw hS hl
  have hx := X.1.1
  have hb := X.1.2.1
  have hl : lv_has ls 3 [(0, .ref (L (nm a b))), (1, .ref (L (nm u v)))] := hl
  have KL : ∀ (n : Nat) (t : Nat) (j : Int32) (H : Heap) (locs : List Loc) (ls : Array Slot), t + n = 16 → j = nI t → mW Γ.1 vwCl A L (cM Γ L (x)) H → va_S A s.heap H locs → lv_has ls 3 [(2, .int j), (0, .ref (L (nm a b))), (1, .ref (L (nm u v)))] → W p l e { frames := 2, cells := 0, slots := 0, locals := 42 } s m args below meth c H locs 0 0 (MQ below (mQi Γ (fun r L1 M1 => (∃ t : Bool, r = bI t) ∧ L1 = L ∧ M1 = cM Γ L x) A) args s 0 0 A) (F0 m 15 ls []) := by
    intro n
    induction n with
    | zero =>
      intro t j H locs ls f0 f1 hw hS hl
      refine lv_iload_n hx hb dX6_goesTo_15 rfl (lv_at hl 0 rfl) ?_
      refine lv_bipush (v := 16) hx hb dX6_goesTo_16 (by decide) ?_
      refine lv_icmp_ge (tgt := 55) hx hb dX6_goesTo_18 (by decide) (fun c_1 => ?_) (fun c_1 => ?_)
      · skip
        have c_1n : t ≥ 16 := ngeT (a := t) (b := 16) f1 rfl (by omega) (by omega) c_1
        have c_1m : ¬ t < 16 := by omega
        refine lv_iconst (v := 1) hx hb dX6_goesTo_55 (by decide) ?_
        exact m_zret (b := true) X hr hlk hw hS (Nat.le_of_ble_eq_true rfl) (Nat.le_of_ble_eq_true rfl) rfl ⟨⟨_, rfl⟩, rfl, rfl⟩ dX6_goesTo_56
      · skip
        have c_1n : ¬ t ≥ 16 := ngeF (a := t) (b := 16) f1 rfl (by omega) (by omega) c_1
        have c_1m : t < 16 := by omega
        refine lv_aload_n hx hb dX6_goesTo_21 rfl (lv_at hl 1 rfl) ?_
        refine lv_iload_n hx hb dX6_goesTo_22 rfl (lv_at hl 0 rfl) ?_
        refine m_calli (m_runV (i := nm a b) (ci := 4) (As := [.int j]) (rest := []) X (k_X6_has Γ l L x a b j hp) v_X6_has ml_X6_29 hw hS (p_obj Γ L (c := x) hp) rfl rfl rfl hl.1 ⟨Nat.le_of_ble_eq_true rfl, Nat.le_of_ble_eq_true rfl⟩ (Nat.le_of_ble_eq_true rfl) ⟨Nat.le_of_ble_eq_true rfl, Nat.le_of_ble_eq_true rfl⟩ dX6_goesTo_23) hS (fun r_2 L1 M1 H locs hp_2 hw hS => ?_)
        obtain ⟨e0, e1, e2⟩ := hp_2
        subst e0; rw [e1, e2] at hw; clear e1 e2
        refine lv_if_eq (tgt := 55) hx hb dX6_goesTo_26 (by decide) (fun c_3 => ?_) (fun c_3 => ?_)
        · skip
          have c_3 := bI_f c_3
          refine lv_iconst (v := 1) hx hb dX6_goesTo_55 (by decide) ?_
          exact m_zret (b := true) X hr hlk hw hS (Nat.le_of_ble_eq_true rfl) (Nat.le_of_ble_eq_true rfl) rfl ⟨⟨_, rfl⟩, rfl, rfl⟩ dX6_goesTo_56
        · skip
          have c_3 := bI_t c_3
          refine lv_aload_n hx hb dX6_goesTo_29 rfl (lv_at hl 1 rfl) ?_
          refine q_getk X hw hp fl_X6_9 rfl dX6_goesTo_30 ?_
          refine lv_iload_n hx hb dX6_goesTo_33 rfl (lv_at hl 0 rfl) ?_
          refine q_ald (n := t) X hw hp f1 (by omega) dX6_goesTo_34 ?_
          refine lv_aload_n hx hb dX6_goesTo_35 rfl (lv_at hl 2 rfl) ?_
          refine q_getk X hw hp2 fl_X6_9 rfl dX6_goesTo_36 ?_
          refine lv_iload_n hx hb dX6_goesTo_39 rfl (lv_at hl 0 rfl) ?_
          refine q_ald (n := t) X hw hp2 f1 (by omega) dX6_goesTo_40 ?_
          refine m_calli (m_runS (As := [.int (x.2.1 a (b + 1) t), .int (x.2.1 u (v + 1) t)]) (rest := []) X (k_X3_goesTo Γ l L (cM Γ L (x)) (x.2.1 a (b + 1) t) (x.2.1 u (v + 1) t)) s_X3_goesTo ml_X6_40 hw hS rfl hl.1 ⟨Nat.le_of_ble_eq_true rfl, Nat.le_of_ble_eq_true rfl⟩ (Nat.le_of_ble_eq_true rfl) ⟨Nat.le_of_ble_eq_true rfl, Nat.le_of_ble_eq_true rfl⟩ dX6_goesTo_41) hS (fun r_4 L1 M1 H locs hp_4 hw hS => ?_)
          obtain ⟨rfl, e1, e2⟩ := hp_4
          rw [e1, e2] at hw; clear e1 e2
          refine lv_if_ne (tgt := 49) hx hb dX6_goesTo_44 (by decide) (fun c_5 => ?_) (fun c_5 => ?_)
          · skip
            have c_5 := bI_t c_5
            refine lv_iinc (v := j + 1) (lv' := [(2, .int (j + 1)), (0, .ref (L (nm a b))), (1, .ref (L (nm u v)))]) hx hb dX6_goesTo_49 hl (k := 0) rfl rfl (by decide) rfl (fun ls hl => ?_)
            refine lv_goto (tgt := 15) hx hb dX6_goesTo_52 (by decide) ?_
            exact (by omega : False).elim
          · skip
            have c_5 := bI_f c_5
            refine lv_iconst (v := 0) hx hb dX6_goesTo_47 (by decide) ?_
            exact m_zret (b := false) X hr hlk hw hS (Nat.le_of_ble_eq_true rfl) (Nat.le_of_ble_eq_true rfl) rfl ⟨⟨_, rfl⟩, rfl, rfl⟩ dX6_goesTo_48
    | succ n ih =>
      intro t j H locs ls f0 f1 hw hS hl
      refine lv_iload_n hx hb dX6_goesTo_15 rfl (lv_at hl 0 rfl) ?_
      refine lv_bipush (v := 16) hx hb dX6_goesTo_16 (by decide) ?_
      refine lv_icmp_ge (tgt := 55) hx hb dX6_goesTo_18 (by decide) (fun c_6 => ?_) (fun c_6 => ?_)
      · skip
        have c_6n : t ≥ 16 := ngeT (a := t) (b := 16) f1 rfl (by omega) (by omega) c_6
        have c_6m : ¬ t < 16 := by omega
        refine lv_iconst (v := 1) hx hb dX6_goesTo_55 (by decide) ?_
        exact m_zret (b := true) X hr hlk hw hS (Nat.le_of_ble_eq_true rfl) (Nat.le_of_ble_eq_true rfl) rfl ⟨⟨_, rfl⟩, rfl, rfl⟩ dX6_goesTo_56
      · skip
        have c_6n : ¬ t ≥ 16 := ngeF (a := t) (b := 16) f1 rfl (by omega) (by omega) c_6
        have c_6m : t < 16 := by omega
        refine lv_aload_n hx hb dX6_goesTo_21 rfl (lv_at hl 1 rfl) ?_
        refine lv_iload_n hx hb dX6_goesTo_22 rfl (lv_at hl 0 rfl) ?_
        refine m_calli (m_runV (i := nm a b) (ci := 4) (As := [.int j]) (rest := []) X (k_X6_has Γ l L x a b j hp) v_X6_has ml_X6_29 hw hS (p_obj Γ L (c := x) hp) rfl rfl rfl hl.1 ⟨Nat.le_of_ble_eq_true rfl, Nat.le_of_ble_eq_true rfl⟩ (Nat.le_of_ble_eq_true rfl) ⟨Nat.le_of_ble_eq_true rfl, Nat.le_of_ble_eq_true rfl⟩ dX6_goesTo_23) hS (fun r_7 L1 M1 H locs hp_7 hw hS => ?_)
        obtain ⟨e0, e1, e2⟩ := hp_7
        subst e0; rw [e1, e2] at hw; clear e1 e2
        refine lv_if_eq (tgt := 55) hx hb dX6_goesTo_26 (by decide) (fun c_8 => ?_) (fun c_8 => ?_)
        · skip
          have c_8 := bI_f c_8
          refine lv_iconst (v := 1) hx hb dX6_goesTo_55 (by decide) ?_
          exact m_zret (b := true) X hr hlk hw hS (Nat.le_of_ble_eq_true rfl) (Nat.le_of_ble_eq_true rfl) rfl ⟨⟨_, rfl⟩, rfl, rfl⟩ dX6_goesTo_56
        · skip
          have c_8 := bI_t c_8
          refine lv_aload_n hx hb dX6_goesTo_29 rfl (lv_at hl 1 rfl) ?_
          refine q_getk X hw hp fl_X6_9 rfl dX6_goesTo_30 ?_
          refine lv_iload_n hx hb dX6_goesTo_33 rfl (lv_at hl 0 rfl) ?_
          refine q_ald (n := t) X hw hp f1 (by omega) dX6_goesTo_34 ?_
          refine lv_aload_n hx hb dX6_goesTo_35 rfl (lv_at hl 2 rfl) ?_
          refine q_getk X hw hp2 fl_X6_9 rfl dX6_goesTo_36 ?_
          refine lv_iload_n hx hb dX6_goesTo_39 rfl (lv_at hl 0 rfl) ?_
          refine q_ald (n := t) X hw hp2 f1 (by omega) dX6_goesTo_40 ?_
          refine m_calli (m_runS (As := [.int (x.2.1 a (b + 1) t), .int (x.2.1 u (v + 1) t)]) (rest := []) X (k_X3_goesTo Γ l L (cM Γ L (x)) (x.2.1 a (b + 1) t) (x.2.1 u (v + 1) t)) s_X3_goesTo ml_X6_40 hw hS rfl hl.1 ⟨Nat.le_of_ble_eq_true rfl, Nat.le_of_ble_eq_true rfl⟩ (Nat.le_of_ble_eq_true rfl) ⟨Nat.le_of_ble_eq_true rfl, Nat.le_of_ble_eq_true rfl⟩ dX6_goesTo_41) hS (fun r_9 L1 M1 H locs hp_9 hw hS => ?_)
          obtain ⟨rfl, e1, e2⟩ := hp_9
          rw [e1, e2] at hw; clear e1 e2
          refine lv_if_ne (tgt := 49) hx hb dX6_goesTo_44 (by decide) (fun c_10 => ?_) (fun c_10 => ?_)
          · skip
            have c_10 := bI_t c_10
            refine lv_iinc (v := j + 1) (lv' := [(2, .int (j + 1)), (0, .ref (L (nm a b))), (1, .ref (L (nm u v)))]) hx hb dX6_goesTo_49 hl (k := 0) rfl rfl (by decide) rfl (fun ls hl => ?_)
            refine lv_goto (tgt := 15) hx hb dX6_goesTo_52 (by decide) ?_
            exact ih (t + 1) _ _ _ ls (by omega) (nadd (a := t) (b := 1) f1 rfl) hw hS (lv_sub hl [0, 1, 2] rfl)
          · skip
            have c_10 := bI_f c_10
            refine lv_iconst (v := 0) hx hb dX6_goesTo_47 (by decide) ?_
            exact m_zret (b := false) X hr hlk hw hS (Nat.le_of_ble_eq_true rfl) (Nat.le_of_ble_eq_true rfl) rfl ⟨⟨_, rfl⟩, rfl, rfl⟩ dX6_goesTo_48
  refine lv_aload_n hx hb dX6_goesTo_0 rfl (lv_at hl 0 rfl) ?_
  refine q_getd X hw hp fl_X6_13 rfl dX6_goesTo_1 ?_
  refine lv_aload_n hx hb dX6_goesTo_4 rfl (lv_at hl 1 rfl) ?_
  refine q_getd X hw hp2 fl_X6_13 rfl dX6_goesTo_5 ?_
  refine lv_icmp_eq (tgt := 13) hx hb dX6_goesTo_8 (by decide) (fun c_11 => ?_) (fun c_11 => ?_)
  · skip
    refine lv_iconst (v := 0) hx hb dX6_goesTo_13 (by decide) ?_
    refine lv_istore_n (lv' := [(2, .int 0), (0, .ref (L (nm a b))), (1, .ref (L (nm u v)))]) hx hb dX6_goesTo_14 rfl hl (by decide) rfl (fun ls hl => ?_)
    exact KL 16 0 _ _ _ ls rfl rfl hw hS (lv_sub hl [0, 1, 2] rfl)
  · skip
    refine lv_iconst (v := 0) hx hb dX6_goesTo_11 (by decide) ?_
    exact m_zret (b := false) X hr hlk hw hS (Nat.le_of_ble_eq_true rfl) (Nat.le_of_ble_eq_true rfl) rfl ⟨⟨_, rfl⟩, rfl, rfl⟩ dX6_goesTo_12
theorem v_X6_takeIn : mVm yX6_takeIn cX6_takeIn 5 (some .boolean) 1 := ⟨cd_X6_takeIn, im_X6_takeIn, se_X6_takeIn, ini_X6, by decide, by decide, by decide +kernel⟩
set_option maxHeartbeats 4000000 in
set_option maxRecDepth 100000 in
theorem k_X6_takeIn (Γ : mG) (l : Launch) (L : mI → Nat) (x : CS) (a b u v : Nat) (h : Nat → Int32) (d : Nat)  (hp : pOK x a b) (hp2 : pOK x u v) (hd : d ≤ 8) : mMet Γ l yX6_takeIn cX6_takeIn 5 (some .boolean) { frames := 3, cells := 0, slots := 0, locals := 65 } [.ref (L (nm a b)), .ref (L (nm u v))] L (cM Γ L (sP x a b (h, d))) (mQi Γ (mPz Γ L x a b)) := by
  refine m_start (by decide) (Nat.le_of_ble_eq_true rfl) ?_
  intro p e s m args below meth c A ls X hr hlk hnm hw hS hl
  have hx := X.1.1
  have hb := X.1.2.1
  have hl : lv_has ls 5 [(0, .ref (L (nm a b))), (1, .ref (L (nm u v)))] := hl
  have KL : ∀ (n : Nat) (t : Nat) (j : Int32) (z : Bool) (g : Nat → Int32) (H : Heap) (locs : List Loc) (ls : Array Slot), t + n = 16 → j = nI t → mW Γ.1 vwCl A L (cM Γ L (sP x a b (g, d))) H → va_S A s.heap H locs → lv_has ls 5 [(3, .int j), (2, .int (bI z)), (0, .ref (L (nm a b))), (1, .ref (L (nm u v)))] → W p l e { frames := 3, cells := 0, slots := 0, locals := 65 } s m args below meth c H locs 0 0 (MQ below (mQi Γ (mPz Γ L x a b) A) args s 0 0 A) (F0 m 4 ls []) := by
    intro n
    induction n with
    | zero =>
      intro t j z g H locs ls f0 f1 hw hS hl
      refine lv_iload_n hx hb dX6_takeIn_4 rfl (lv_at hl 0 rfl) ?_
      refine lv_bipush (v := 16) hx hb dX6_takeIn_5 (by decide) ?_
      refine lv_icmp_ge (tgt := 70) hx hb dX6_takeIn_7 (by decide) (fun c_1 => ?_) (fun c_1 => ?_)
      · skip
        have c_1n : t ≥ 16 := ngeT (a := t) (b := 16) f1 rfl (by omega) (by omega) c_1
        have c_1m : ¬ t < 16 := by omega
        refine lv_iload_n hx hb dX6_takeIn_70 rfl (lv_at hl 1 rfl) ?_
        exact m_zret (b := z) X hr hlk hw hS (Nat.le_of_ble_eq_true rfl) (Nat.le_of_ble_eq_true rfl) rfl ⟨⟨_, rfl⟩, (g, d), by show d ≤ 8; omega, rfl, rfl⟩ dX6_takeIn_71
      · skip
        have c_1n : ¬ t ≥ 16 := ngeF (a := t) (b := 16) f1 rfl (by omega) (by omega) c_1
        have c_1m : t < 16 := by omega
        refine lv_aload_n hx hb dX6_takeIn_10 rfl (lv_at hl 2 rfl) ?_
        refine lv_iload_n hx hb dX6_takeIn_11 rfl (lv_at hl 0 rfl) ?_
        refine m_calli (m_runV (i := nm a b) (ci := 4) (As := [.int j]) (rest := []) X (k_X6_has Γ l L (sP x a b (g, d)) a b j hp) v_X6_has ml_X6_29 hw hS (p_obj Γ L (c := sP x a b (g, d)) hp) rfl rfl rfl hl.1 ⟨Nat.le_of_ble_eq_true rfl, Nat.le_of_ble_eq_true rfl⟩ (Nat.le_of_ble_eq_true rfl) ⟨Nat.le_of_ble_eq_true rfl, Nat.le_of_ble_eq_true rfl⟩ dX6_takeIn_12) hS (fun r_2 L1 M1 H locs hp_2 hw hS => ?_)
        obtain ⟨e0, e1, e2⟩ := hp_2
        rw [sP_dep] at e0
        subst e0; rw [e1, e2] at hw; clear e1 e2
        refine lv_if_eq (tgt := 70) hx hb dX6_takeIn_15 (by decide) (fun c_3 => ?_) (fun c_3 => ?_)
        · skip
          have c_3 := bI_f c_3
          refine lv_iload_n hx hb dX6_takeIn_70 rfl (lv_at hl 1 rfl) ?_
          exact m_zret (b := z) X hr hlk hw hS (Nat.le_of_ble_eq_true rfl) (Nat.le_of_ble_eq_true rfl) rfl ⟨⟨_, rfl⟩, (g, d), by show d ≤ 8; omega, rfl, rfl⟩ dX6_takeIn_71
        · skip
          have c_3 := bI_t c_3
          refine lv_aload_n hx hb dX6_takeIn_18 rfl (lv_at hl 2 rfl) ?_
          refine p_getk X hw hp fl_X6_9 rfl dX6_takeIn_19 ?_
          refine lv_iload_n hx hb dX6_takeIn_22 rfl (lv_at hl 0 rfl) ?_
          refine p_ald (n := t) X hw hp f1 (by omega) dX6_takeIn_23 ?_
          refine lv_aload_n hx hb dX6_takeIn_24 rfl (lv_at hl 3 rfl) ?_
          refine q_getk X hw hp2 fl_X6_9 rfl dX6_takeIn_25 ?_
          refine lv_iload_n hx hb dX6_takeIn_28 rfl (lv_at hl 0 rfl) ?_
          refine q_ald (n := t) X hw hp2 f1 (by omega) dX6_takeIn_29 ?_
          refine m_calli (m_runS (As := [.int (g t), .int ((sP x a b (g, d)).2.1 u (v + 1) t)]) (rest := []) X (k_X3_joinOf Γ l L (cM Γ L (sP x a b (g, d))) (g t) ((sP x a b (g, d)).2.1 u (v + 1) t)) s_X3_joinOf ml_X6_44 hw hS rfl hl.1 ⟨Nat.le_of_ble_eq_true rfl, Nat.le_of_ble_eq_true rfl⟩ (Nat.le_of_ble_eq_true rfl) ⟨Nat.le_of_ble_eq_true rfl, Nat.le_of_ble_eq_true rfl⟩ dX6_takeIn_30) hS (fun r_4 L1 M1 H locs hp_4 hw hS => ?_)
          obtain ⟨rfl, e1, e2⟩ := hp_4
          rw [e1, e2] at hw; clear e1 e2
          refine lv_istore (lv' := [(4, .int (k_join (g t) ((sP x a b (g, d)).2.1 u (v + 1) t))), (3, .int j), (2, .int (bI z)), (0, .ref (L (nm a b))), (1, .ref (L (nm u v)))]) hx hb dX6_takeIn_33 hl (by decide) rfl (fun ls hl => ?_)
          refine lv_iload_n hx hb dX6_takeIn_35 rfl (lv_at hl 2 rfl) ?_
          refine lv_if_ne (tgt := 50) hx hb dX6_takeIn_36 (by decide) (fun c_5 => ?_) (fun c_5 => ?_)
          · skip
            have c_5 := bI_t c_5
            refine lv_iconst (v := 1) hx hb dX6_takeIn_50 (by decide) ?_
            refine lv_goto (tgt := 55) hx hb dX6_takeIn_51 (by decide) ?_
            refine lv_istore_n (lv' := [(2, .int 1), (4, .int (k_join (g t) ((sP x a b (g, d)).2.1 u (v + 1) t))), (3, .int j), (0, .ref (L (nm a b))), (1, .ref (L (nm u v)))]) hx hb dX6_takeIn_55 rfl hl (by decide) rfl (fun ls hl => ?_)
            refine lv_aload_n hx hb dX6_takeIn_56 rfl (lv_at hl 3 rfl) ?_
            refine p_getk X hw hp fl_X6_9 rfl dX6_takeIn_57 ?_
            refine lv_iload_n hx hb dX6_takeIn_60 rfl (lv_at hl 2 rfl) ?_
            refine lv_iload hx hb dX6_takeIn_61 (lv_at hl 1 rfl) ?_
            refine p_ast (n := t) (v := k_join (g t) ((sP x a b (g, d)).2.1 u (v + 1) t)) X hw hp hS f1 (by omega) dX6_takeIn_63 (fun H locs hw hS => ?_)
            refine lv_iinc (v := j + 1) (lv' := [(3, .int (j + 1)), (2, .int 1), (4, .int (k_join (g t) ((sP x a b (g, d)).2.1 u (v + 1) t))), (0, .ref (L (nm a b))), (1, .ref (L (nm u v)))]) hx hb dX6_takeIn_64 hl (k := 2) rfl rfl (by decide) rfl (fun ls hl => ?_)
            refine lv_goto (tgt := 4) hx hb dX6_takeIn_67 (by decide) ?_
            exact (by omega : False).elim
          · skip
            have c_5 := bI_f c_5
            refine lv_iload hx hb dX6_takeIn_39 (lv_at hl 0 rfl) ?_
            refine lv_aload_n hx hb dX6_takeIn_41 rfl (lv_at hl 3 rfl) ?_
            refine p_getk X hw hp fl_X6_9 rfl dX6_takeIn_42 ?_
            refine lv_iload_n hx hb dX6_takeIn_45 rfl (lv_at hl 1 rfl) ?_
            refine p_ald (n := t) X hw hp f1 (by omega) dX6_takeIn_46 ?_
            refine lv_icmp_eq (tgt := 54) hx hb dX6_takeIn_47 (by decide) (fun c_6 => ?_) (fun c_6 => ?_)
            · skip
              refine lv_iconst (v := 0) hx hb dX6_takeIn_54 (by decide) ?_
              refine lv_istore_n (lv' := [(2, .int 0), (4, .int (k_join (g t) ((sP x a b (g, d)).2.1 u (v + 1) t))), (3, .int j), (0, .ref (L (nm a b))), (1, .ref (L (nm u v)))]) hx hb dX6_takeIn_55 rfl hl (by decide) rfl (fun ls hl => ?_)
              refine lv_aload_n hx hb dX6_takeIn_56 rfl (lv_at hl 3 rfl) ?_
              refine p_getk X hw hp fl_X6_9 rfl dX6_takeIn_57 ?_
              refine lv_iload_n hx hb dX6_takeIn_60 rfl (lv_at hl 2 rfl) ?_
              refine lv_iload hx hb dX6_takeIn_61 (lv_at hl 1 rfl) ?_
              refine p_ast (n := t) (v := k_join (g t) ((sP x a b (g, d)).2.1 u (v + 1) t)) X hw hp hS f1 (by omega) dX6_takeIn_63 (fun H locs hw hS => ?_)
              refine lv_iinc (v := j + 1) (lv' := [(3, .int (j + 1)), (2, .int 0), (4, .int (k_join (g t) ((sP x a b (g, d)).2.1 u (v + 1) t))), (0, .ref (L (nm a b))), (1, .ref (L (nm u v)))]) hx hb dX6_takeIn_64 hl (k := 2) rfl rfl (by decide) rfl (fun ls hl => ?_)
              refine lv_goto (tgt := 4) hx hb dX6_takeIn_67 (by decide) ?_
              exact (by omega : False).elim
            · skip
              refine lv_iconst (v := 1) hx hb dX6_takeIn_50 (by decide) ?_
              refine lv_goto (tgt := 55) hx hb dX6_takeIn_51 (by decide) ?_
              refine lv_istore_n (lv' := [(2, .int 1), (4, .int (k_join (g t) ((sP x a b (g, d)).2.1 u (v + 1) t))), (3, .int j), (0, .ref (L (nm a b))), (1, .ref (L (nm u v)))]) hx hb dX6_takeIn_55 rfl hl (by decide) rfl (fun ls hl => ?_)
              refine lv_aload_n hx hb dX6_takeIn_56 rfl (lv_at hl 3 rfl) ?_
              refine p_getk X hw hp fl_X6_9 rfl dX6_takeIn_57 ?_
              refine lv_iload_n hx hb dX6_takeIn_60 rfl (lv_at hl 2 rfl) ?_
              refine lv_iload hx hb dX6_takeIn_61 (lv_at hl 1 rfl) ?_
              refine p_ast (n := t) (v := k_join (g t) ((sP x a b (g, d)).2.1 u (v + 1) t)) X hw hp hS f1 (by omega) dX6_takeIn_63 (fun H locs hw hS => ?_)
              refine lv_iinc (v := j + 1) (lv' := [(3, .int (j + 1)), (2, .int 1), (4, .int (k_join (g t) ((sP x a b (g, d)).2.1 u (v + 1) t))), (0, .ref (L (nm a b))), (1, .ref (L (nm u v)))]) hx hb dX6_takeIn_64 hl (k := 2) rfl rfl (by decide) rfl (fun ls hl => ?_)
              refine lv_goto (tgt := 4) hx hb dX6_takeIn_67 (by decide) ?_
              exact (by omega : False).elim
    | succ n ih =>
      intro t j z g H locs ls f0 f1 hw hS hl
      refine lv_iload_n hx hb dX6_takeIn_4 rfl (lv_at hl 0 rfl) ?_
      refine lv_bipush (v := 16) hx hb dX6_takeIn_5 (by decide) ?_
      refine lv_icmp_ge (tgt := 70) hx hb dX6_takeIn_7 (by decide) (fun c_7 => ?_) (fun c_7 => ?_)
      · skip
        have c_7n : t ≥ 16 := ngeT (a := t) (b := 16) f1 rfl (by omega) (by omega) c_7
        have c_7m : ¬ t < 16 := by omega
        refine lv_iload_n hx hb dX6_takeIn_70 rfl (lv_at hl 1 rfl) ?_
        exact m_zret (b := z) X hr hlk hw hS (Nat.le_of_ble_eq_true rfl) (Nat.le_of_ble_eq_true rfl) rfl ⟨⟨_, rfl⟩, (g, d), by show d ≤ 8; omega, rfl, rfl⟩ dX6_takeIn_71
      · skip
        have c_7n : ¬ t ≥ 16 := ngeF (a := t) (b := 16) f1 rfl (by omega) (by omega) c_7
        have c_7m : t < 16 := by omega
        refine lv_aload_n hx hb dX6_takeIn_10 rfl (lv_at hl 2 rfl) ?_
        refine lv_iload_n hx hb dX6_takeIn_11 rfl (lv_at hl 0 rfl) ?_
        refine m_calli (m_runV (i := nm a b) (ci := 4) (As := [.int j]) (rest := []) X (k_X6_has Γ l L (sP x a b (g, d)) a b j hp) v_X6_has ml_X6_29 hw hS (p_obj Γ L (c := sP x a b (g, d)) hp) rfl rfl rfl hl.1 ⟨Nat.le_of_ble_eq_true rfl, Nat.le_of_ble_eq_true rfl⟩ (Nat.le_of_ble_eq_true rfl) ⟨Nat.le_of_ble_eq_true rfl, Nat.le_of_ble_eq_true rfl⟩ dX6_takeIn_12) hS (fun r_8 L1 M1 H locs hp_8 hw hS => ?_)
        obtain ⟨e0, e1, e2⟩ := hp_8
        rw [sP_dep] at e0
        subst e0; rw [e1, e2] at hw; clear e1 e2
        refine lv_if_eq (tgt := 70) hx hb dX6_takeIn_15 (by decide) (fun c_9 => ?_) (fun c_9 => ?_)
        · skip
          have c_9 := bI_f c_9
          refine lv_iload_n hx hb dX6_takeIn_70 rfl (lv_at hl 1 rfl) ?_
          exact m_zret (b := z) X hr hlk hw hS (Nat.le_of_ble_eq_true rfl) (Nat.le_of_ble_eq_true rfl) rfl ⟨⟨_, rfl⟩, (g, d), by show d ≤ 8; omega, rfl, rfl⟩ dX6_takeIn_71
        · skip
          have c_9 := bI_t c_9
          refine lv_aload_n hx hb dX6_takeIn_18 rfl (lv_at hl 2 rfl) ?_
          refine p_getk X hw hp fl_X6_9 rfl dX6_takeIn_19 ?_
          refine lv_iload_n hx hb dX6_takeIn_22 rfl (lv_at hl 0 rfl) ?_
          refine p_ald (n := t) X hw hp f1 (by omega) dX6_takeIn_23 ?_
          refine lv_aload_n hx hb dX6_takeIn_24 rfl (lv_at hl 3 rfl) ?_
          refine q_getk X hw hp2 fl_X6_9 rfl dX6_takeIn_25 ?_
          refine lv_iload_n hx hb dX6_takeIn_28 rfl (lv_at hl 0 rfl) ?_
          refine q_ald (n := t) X hw hp2 f1 (by omega) dX6_takeIn_29 ?_
          refine m_calli (m_runS (As := [.int (g t), .int ((sP x a b (g, d)).2.1 u (v + 1) t)]) (rest := []) X (k_X3_joinOf Γ l L (cM Γ L (sP x a b (g, d))) (g t) ((sP x a b (g, d)).2.1 u (v + 1) t)) s_X3_joinOf ml_X6_44 hw hS rfl hl.1 ⟨Nat.le_of_ble_eq_true rfl, Nat.le_of_ble_eq_true rfl⟩ (Nat.le_of_ble_eq_true rfl) ⟨Nat.le_of_ble_eq_true rfl, Nat.le_of_ble_eq_true rfl⟩ dX6_takeIn_30) hS (fun r_10 L1 M1 H locs hp_10 hw hS => ?_)
          obtain ⟨rfl, e1, e2⟩ := hp_10
          rw [e1, e2] at hw; clear e1 e2
          refine lv_istore (lv' := [(4, .int (k_join (g t) ((sP x a b (g, d)).2.1 u (v + 1) t))), (3, .int j), (2, .int (bI z)), (0, .ref (L (nm a b))), (1, .ref (L (nm u v)))]) hx hb dX6_takeIn_33 hl (by decide) rfl (fun ls hl => ?_)
          refine lv_iload_n hx hb dX6_takeIn_35 rfl (lv_at hl 2 rfl) ?_
          refine lv_if_ne (tgt := 50) hx hb dX6_takeIn_36 (by decide) (fun c_11 => ?_) (fun c_11 => ?_)
          · skip
            have c_11 := bI_t c_11
            refine lv_iconst (v := 1) hx hb dX6_takeIn_50 (by decide) ?_
            refine lv_goto (tgt := 55) hx hb dX6_takeIn_51 (by decide) ?_
            refine lv_istore_n (lv' := [(2, .int 1), (4, .int (k_join (g t) ((sP x a b (g, d)).2.1 u (v + 1) t))), (3, .int j), (0, .ref (L (nm a b))), (1, .ref (L (nm u v)))]) hx hb dX6_takeIn_55 rfl hl (by decide) rfl (fun ls hl => ?_)
            refine lv_aload_n hx hb dX6_takeIn_56 rfl (lv_at hl 3 rfl) ?_
            refine p_getk X hw hp fl_X6_9 rfl dX6_takeIn_57 ?_
            refine lv_iload_n hx hb dX6_takeIn_60 rfl (lv_at hl 2 rfl) ?_
            refine lv_iload hx hb dX6_takeIn_61 (lv_at hl 1 rfl) ?_
            refine p_ast (n := t) (v := k_join (g t) ((sP x a b (g, d)).2.1 u (v + 1) t)) X hw hp hS f1 (by omega) dX6_takeIn_63 (fun H locs hw hS => ?_)
            refine lv_iinc (v := j + 1) (lv' := [(3, .int (j + 1)), (2, .int 1), (4, .int (k_join (g t) ((sP x a b (g, d)).2.1 u (v + 1) t))), (0, .ref (L (nm a b))), (1, .ref (L (nm u v)))]) hx hb dX6_takeIn_64 hl (k := 2) rfl rfl (by decide) rfl (fun ls hl => ?_)
            refine lv_goto (tgt := 4) hx hb dX6_takeIn_67 (by decide) ?_
            exact ih (t + 1) _ true _ _ _ ls (by omega) (nadd (a := t) (b := 1) f1 rfl) hw hS (lv_sub hl [0, 1, 3, 4] rfl)
          · skip
            have c_11 := bI_f c_11
            refine lv_iload hx hb dX6_takeIn_39 (lv_at hl 0 rfl) ?_
            refine lv_aload_n hx hb dX6_takeIn_41 rfl (lv_at hl 3 rfl) ?_
            refine p_getk X hw hp fl_X6_9 rfl dX6_takeIn_42 ?_
            refine lv_iload_n hx hb dX6_takeIn_45 rfl (lv_at hl 1 rfl) ?_
            refine p_ald (n := t) X hw hp f1 (by omega) dX6_takeIn_46 ?_
            refine lv_icmp_eq (tgt := 54) hx hb dX6_takeIn_47 (by decide) (fun c_12 => ?_) (fun c_12 => ?_)
            · skip
              refine lv_iconst (v := 0) hx hb dX6_takeIn_54 (by decide) ?_
              refine lv_istore_n (lv' := [(2, .int 0), (4, .int (k_join (g t) ((sP x a b (g, d)).2.1 u (v + 1) t))), (3, .int j), (0, .ref (L (nm a b))), (1, .ref (L (nm u v)))]) hx hb dX6_takeIn_55 rfl hl (by decide) rfl (fun ls hl => ?_)
              refine lv_aload_n hx hb dX6_takeIn_56 rfl (lv_at hl 3 rfl) ?_
              refine p_getk X hw hp fl_X6_9 rfl dX6_takeIn_57 ?_
              refine lv_iload_n hx hb dX6_takeIn_60 rfl (lv_at hl 2 rfl) ?_
              refine lv_iload hx hb dX6_takeIn_61 (lv_at hl 1 rfl) ?_
              refine p_ast (n := t) (v := k_join (g t) ((sP x a b (g, d)).2.1 u (v + 1) t)) X hw hp hS f1 (by omega) dX6_takeIn_63 (fun H locs hw hS => ?_)
              refine lv_iinc (v := j + 1) (lv' := [(3, .int (j + 1)), (2, .int 0), (4, .int (k_join (g t) ((sP x a b (g, d)).2.1 u (v + 1) t))), (0, .ref (L (nm a b))), (1, .ref (L (nm u v)))]) hx hb dX6_takeIn_64 hl (k := 2) rfl rfl (by decide) rfl (fun ls hl => ?_)
              refine lv_goto (tgt := 4) hx hb dX6_takeIn_67 (by decide) ?_
              exact ih (t + 1) _ false _ _ _ ls (by omega) (nadd (a := t) (b := 1) f1 rfl) hw hS (lv_sub hl [0, 1, 3, 4] rfl)
            · skip
              refine lv_iconst (v := 1) hx hb dX6_takeIn_50 (by decide) ?_
              refine lv_goto (tgt := 55) hx hb dX6_takeIn_51 (by decide) ?_
              refine lv_istore_n (lv' := [(2, .int 1), (4, .int (k_join (g t) ((sP x a b (g, d)).2.1 u (v + 1) t))), (3, .int j), (0, .ref (L (nm a b))), (1, .ref (L (nm u v)))]) hx hb dX6_takeIn_55 rfl hl (by decide) rfl (fun ls hl => ?_)
              refine lv_aload_n hx hb dX6_takeIn_56 rfl (lv_at hl 3 rfl) ?_
              refine p_getk X hw hp fl_X6_9 rfl dX6_takeIn_57 ?_
              refine lv_iload_n hx hb dX6_takeIn_60 rfl (lv_at hl 2 rfl) ?_
              refine lv_iload hx hb dX6_takeIn_61 (lv_at hl 1 rfl) ?_
              refine p_ast (n := t) (v := k_join (g t) ((sP x a b (g, d)).2.1 u (v + 1) t)) X hw hp hS f1 (by omega) dX6_takeIn_63 (fun H locs hw hS => ?_)
              refine lv_iinc (v := j + 1) (lv' := [(3, .int (j + 1)), (2, .int 1), (4, .int (k_join (g t) ((sP x a b (g, d)).2.1 u (v + 1) t))), (0, .ref (L (nm a b))), (1, .ref (L (nm u v)))]) hx hb dX6_takeIn_64 hl (k := 2) rfl rfl (by decide) rfl (fun ls hl => ?_)
              refine lv_goto (tgt := 4) hx hb dX6_takeIn_67 (by decide) ?_
              exact ih (t + 1) _ true _ _ _ ls (by omega) (nadd (a := t) (b := 1) f1 rfl) hw hS (lv_sub hl [0, 1, 3, 4] rfl)
  refine lv_iconst (v := 0) hx hb dX6_takeIn_0 (by decide) ?_
  refine lv_istore_n (lv' := [(2, .int 0), (0, .ref (L (nm a b))), (1, .ref (L (nm u v)))]) hx hb dX6_takeIn_1 rfl hl (by decide) rfl (fun ls hl => ?_)
  refine lv_iconst (v := 0) hx hb dX6_takeIn_2 (by decide) ?_
  refine lv_istore_n (lv' := [(3, .int 0), (2, .int 0), (0, .ref (L (nm a b))), (1, .ref (L (nm u v)))]) hx hb dX6_takeIn_3 rfl hl (by decide) rfl (fun ls hl => ?_)
  exact KL 16 0 _ false _ _ _ ls rfl rfl hw hS (lv_sub hl [0, 1, 2, 3] rfl)
