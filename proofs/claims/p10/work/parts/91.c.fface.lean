/-! JOIN, class and reference -/
def jAns (x c1 : CS) (xr : RS) (hh : Nat → Int32) (a r : Int32) : Prop := (r = -1 ∧ ¬ (0 ≤ a.toInt ∧ a.toInt < cN x) ∧ c1 = x) ∨ ∃ cm, cm < cN x ∧ a = nI cm ∧ r = r_verdict (jv (jF cm (oM xr cm) (hN xr cm) (hF xr cm) (hT xr cm) (hA xr cm) (pM xr) xr hh).1) ∧ c1.1 0 3 5 = nI (jF cm (oM xr cm) (hN xr cm) (hF xr cm) (hT xr cm) (hA xr cm) (pM xr) xr hh).2
theorem join_eq {x c1 : CS} {xr : RS} {hh : Nat → Int32} {a v1 v2 y13 : Int32} {n : Nat} (en : cN x = n) (h8 : n ≤ 8) (h1 : jAns x c1 xr hh a v1) (h2 : (r_isM n a = false ∧ v2 = -1 ∧ y13 = xr.1 13) ∨ (r_isM n a = true ∧ v2 = r_verdict (jv (jF a.toNatClampNeg (oM xr a.toNatClampNeg) (hN xr a.toNatClampNeg) (hF xr a.toNatClampNeg) (hT xr a.toNatClampNeg) (hA xr a.toNatClampNeg) (pM xr) xr hh).1) ∧ y13 = nI (jF a.toNatClampNeg (oM xr a.toNatClampNeg) (hN xr a.toNatClampNeg) (hF xr a.toNatClampNeg) (hT xr a.toNatClampNeg) (hA xr a.toNatClampNeg) (pM xr) xr hh).2)) : v1 = v2 ∧ (x.1 0 3 5 = xr.1 13 → c1.1 0 3 5 = y13) := by
  rcases h1 with ⟨e1, c1_, rfl⟩ | ⟨cm, hcm, rfl, e1, e2⟩
  · rcases h2 with ⟨-, f1, f2⟩ | ⟨f0, -, -⟩
    · exact ⟨e1.trans f1.symm, fun z => z.trans f2.symm⟩
    · rw [isM_iff, ← en] at f0
      exact absurd f0 c1_
  · have im : r_isM n (nI cm) = true := by rw [isM_iff, nI_toInt (by omega)]; omega
    rcases h2 with ⟨f0, -, -⟩ | ⟨-, f1, f2⟩
    · rw [im] at f0; cases f0
    · rw [nI_clamp (by omega)] at f1 f2
      exact ⟨e1.trans f1.symm, fun _ => e2.trans f2.symm⟩
theorem keep_j4 {x : RS} {n : Nat} {h : Nat → Int32} {q : PL} {k : Nat} (hI : RInv x) (hnn : x.1 0 = nI n) (h8 : n ≤ 8) (hk : k < n) : (sH (sA (r_wbf k (oM x k) (hN x k) (hF x k) (hT x k) (hA x k) (pM x) (oM x k) 0 (r_forget x) (p_begin (pM x k) h, 0) true).2 9 k (bI (decide ((r_wbf k (oM x k) (hN x k) (hF x k) (hT x k) (hA x k) (pM x) (oM x k) 0 (r_forget x) (p_begin (pM x k) h, 0) true).1 < 0)))) q).2.2 = x.2.2 := by
  obtain ⟨n2, g8, gnn, h3, h4, h5⟩ := id hI
  have hq := h3 k (by omega)
  have w := wk_wbf (k := k) (om := oM x k) (hn := hN x k) (hf := hF x k) (hto := hT x k) (hat := hA x k) (pm := pM x) hq.2.1 (by omega) (oM x k) 0 (r_forget x) (p_begin (pM x k) h, 0) true (by omega) (by show 0 ≤ 8; omega) hq.2.2.2.2.2.2
  exact w.2.2.1
theorem keep_j13 {x : RS} {n : Nat} {h : Nat → Int32} {q : PL} {k : Nat} (hI : RInv x) (hnn : x.1 0 = nI n) (h8 : n ≤ 8) (hk : k < n) : (sH (sA (r_wbf k (oM x k) (hN x k) (hF x k) (hT x k) (hA x k) (pM x) (oM x k) 0 (r_forget x) (p_begin (pM x k) h, 0) true).2 9 k (bI (decide ((r_wbf k (oM x k) (hN x k) (hF x k) (hT x k) (hA x k) (pM x) (oM x k) 0 (r_forget x) (p_begin (pM x k) h, 0) true).1 < 0)))) q).1 13 = x.1 13 := by
  obtain ⟨n2, g8, gnn, h3, h4, h5⟩ := id hI
  have hq := h3 k (by omega)
  have w := wk_wbf (k := k) (om := oM x k) (hn := hN x k) (hf := hF x k) (hto := hT x k) (hat := hA x k) (pm := pM x) hq.2.1 (by omega) (oM x k) 0 (r_forget x) (p_begin (pM x k) h, 0) true (by omega) (by show 0 ≤ 8; omega) hq.2.2.2.2.2.2
  exact sH_13.trans (congrFun w.2.1 13)
set_option maxHeartbeats 4000000 in
set_option maxRecDepth 100000 in
theorem k_F9_join (Γ : mG) (l : Launch) (L : mI → Nat) (x : CS) (xr : RS) (hh : Nat → Int32) (a : Int32) (hI : CInv x) (hRI : RInv xr) (hTi : Tie2 x xr) : mMet Γ l yX9_join cX9_join 4 (some .int) { frames := 7, cells := 0, slots := 0, locals := 163 } [.ref (L (nm 0 0)), .int a] L (cM Γ L x) (mQi Γ (fun r L1 M1 => L1 = L ∧ ∃ c1 : CS, M1 = cM Γ L c1 ∧ CInv c1 ∧ kp0 x c1 ∧ jAns x c1 xr hh a r)) := by
  refine m_start (by decide) (Nat.le_of_ble_eq_true rfl) ?_
  intro p e s m args below meth c A ls X hr hlk hnm hw hS hl
  have hx := X.1.1
  have hb := X.1.2.1
  have hl : lv_has ls 4 [(0, .ref (L (nm 0 0))), (1, .int a)] := hl
  have hk : kp0 x x := kp0.rf
  refine lv_aload_n hx hb dX9_join_0 rfl (lv_at hl 0 rfl) ?_
  refine s_get (a := 0) (b := 0) (ci := 7) X hw rfl rfl gX9 0 (by decide) fl_X9_10 rfl rfl dX9_join_1 ?_
  refine lv_iload_n hx hb dX9_join_4 rfl (lv_at hl 1 rfl) ?_
  refine lv_i2l (v := a.toInt64) hx hb dX9_join_5 rfl ?_
  refine m_callq (m_runV (i := nm 0 1) (ci := 5) (As := [.long a.toInt64]) (rest := []) X (k_X7_at Γ l L x a.toInt64 hI.1) v_X7_at ml_X9_34 hw hS rfl rfl rfl rfl hl.1 ⟨Nat.le_of_ble_eq_true rfl, Nat.le_of_ble_eq_true rfl⟩ (Nat.le_of_ble_eq_true rfl) ⟨Nat.le_of_ble_eq_true rfl, Nat.le_of_ble_eq_true rfl⟩ dX9_join_6) hS (fun r_1 L1 M1 H locs hp_1 hw hS => ?_)
  obtain ⟨e1, e2, hq_1⟩ := hp_1
  rw [e1, e2] at hw; clear e1 e2
  rcases hq_1 with ⟨rfl, hno_1⟩ | ⟨k_1, hk_1, ev_1, rfl⟩
  · skip
    refine va_rf_none ?_
    refine lv_astore_nN (lv' := [(2, .null), (0, .ref (L (nm 0 0))), (1, .int a)]) hx hb dX9_join_9 rfl hl (by decide) rfl (fun ls hl => ?_)
    refine lv_aload_nN hx hb dX9_join_10 rfl (lv_at hl 0 rfl) ?_
    refine lv_ifnonnullN hx hb dX9_join_11 ?_
    refine lv_iconst (v := (-1)) hx hb dX9_join_14 (by decide) ?_
    exact m_iret X hr hlk hw hS (Nat.le_of_ble_eq_true rfl) (Nat.le_of_ble_eq_true rfl) ⟨rfl, _, rfl, hI, hk, Or.inl ⟨rfl, (by rw [i64_toInt] at hno_1; exact hno_1), rfl⟩⟩ dX9_join_15
  · skip
    refine va_rf_some ?_
    have hx_1 : k_1 < cN x := hk.bk hk_1
    have ea_1 := i2l_eq ev_1 (by have := hI.1; omega)
    refine lv_astore_n (lv' := [(2, .ref (L (nm (k_1 + 2) 0))), (0, .ref (L (nm 0 0))), (1, .int a)]) hx hb dX9_join_9 rfl hl (by decide) rfl (fun ls hl => ?_)
    refine lv_aload_n hx hb dX9_join_10 rfl (lv_at hl 0 rfl) ?_
    refine lv_ifnonnull (tgt := 16) hx hb dX9_join_11 (by decide) ?_
    refine lv_aload_n hx hb dX9_join_16 rfl (lv_at hl 1 rfl) ?_
    refine s_get (a := 0) (b := 0) (ci := 7) X hw rfl rfl gX9 1 (by decide) fl_X9_19 rfl rfl dX9_join_17 ?_
    refine lv_aload_n hx hb dX9_join_20 rfl (lv_at hl 1 rfl) ?_
    refine s_get (a := 0) (b := 0) (ci := 7) X hw rfl rfl gX9 0 (by decide) fl_X9_10 rfl rfl dX9_join_21 ?_
    refine lv_aload_n hx hb dX9_join_24 rfl (lv_at hl 0 rfl) ?_
    refine m_calli (m_runV (i := nm 0 3) (ci := 2) (As := [.ref (L (nm 0 1)), .ref (L (nm (k_1 + 2) 0))]) (rest := []) X (k_F2_byJoining Γ l L x k_1 (oM xr k_1) (hN xr k_1) (hF xr k_1) (hT xr k_1) (hA xr k_1) (pM xr) xr hh hI (hk.lt hx_1) (PT_of hI hRI hTi.1 hTi.2 (hk.lt hx_1))) v_X2_byJoining ml_X9_79 hw hS rfl rfl rfl rfl hl.1 ⟨Nat.le_of_ble_eq_true rfl, Nat.le_of_ble_eq_true rfl⟩ (Nat.le_of_ble_eq_true rfl) ⟨Nat.le_of_ble_eq_true rfl, Nat.le_of_ble_eq_true rfl⟩ dX9_join_25) hS (fun r_2 L1 M1 H locs hp_2 hw hS => ?_)
    obtain ⟨e1_, c_2, e2_, hI_2, hk_2, er_2, hrd⟩ := hp_2
    rw [e1_, e2_] at hw; clear e1_ e2_
    have hk := hk.tr hk_2
    have hI := hI_2
    refine lv_istore_n (lv' := [(3, .int r_2), (2, .ref (L (nm (k_1 + 2) 0))), (0, .ref (L (nm 0 0))), (1, .int a)]) hx hb dX9_join_28 rfl hl (by decide) rfl (fun ls hl => ?_)
    refine lv_aload_n hx hb dX9_join_29 rfl (lv_at hl 1 rfl) ?_
    refine lv_iload_n hx hb dX9_join_30 rfl (lv_at hl 0 rfl) ?_
    refine lv_if_ne (tgt := 38) hx hb dX9_join_31 (by decide) (fun c_3 => ?_) (fun c_3 => ?_)
    · skip
      refine lv_iconst (v := 0) hx hb dX9_join_38 (by decide) ?_
      refine s_put (a := k_1 + 2) (b := 0) (v := 0) (ci := 0) (ty := tyX0 11) X hw hS 11 (c_cell (hk.lt hx_1) 0 _ _ _) (c_cell (hk.lt hx_1) 0 _ _ _) rfl gX0 tyX0 tyX0_ok nmX0 (by decide) fl_X9_67 rfl rfl (tyX0_ok 11 (by decide)) rfl rfl (show 11 < 12 by decide) dX9_join_39 (fun H locs hw hS => ?_)
      have hI := hI.right (m := k_1) (v := 0)
      have hk := hk.putS (a := k_1 + 2) (b := 0) (k := 11) (v := 0) (by omega)
      refine lv_iload_n hx hb dX9_join_42 rfl (lv_at hl 0 rfl) ?_
      exact m_iret X hr hlk hw hS (Nat.le_of_ble_eq_true rfl) (Nat.le_of_ble_eq_true rfl) ⟨rfl, _, rfl, hI, hk, Or.inr ⟨k_1, hx_1, ea_1, er_2, (tS_rd (by omega)).trans hrd⟩⟩ dX9_join_43
    · skip
      refine lv_iconst (v := 1) hx hb dX9_join_34 (by decide) ?_
      refine lv_goto (tgt := 39) hx hb dX9_join_35 (by decide) ?_
      refine s_put (a := k_1 + 2) (b := 0) (v := 1) (ci := 0) (ty := tyX0 11) X hw hS 11 (c_cell (hk.lt hx_1) 0 _ _ _) (c_cell (hk.lt hx_1) 0 _ _ _) rfl gX0 tyX0 tyX0_ok nmX0 (by decide) fl_X9_67 rfl rfl (tyX0_ok 11 (by decide)) rfl rfl (show 11 < 12 by decide) dX9_join_39 (fun H locs hw hS => ?_)
      have hI := hI.right (m := k_1) (v := 1)
      have hk := hk.putS (a := k_1 + 2) (b := 0) (k := 11) (v := 1) (by omega)
      refine lv_iload_n hx hb dX9_join_42 rfl (lv_at hl 0 rfl) ?_
      exact m_iret X hr hlk hw hS (Nat.le_of_ble_eq_true rfl) (Nat.le_of_ble_eq_true rfl) ⟨rfl, _, rfl, hI, hk, Or.inr ⟨k_1, hx_1, ea_1, er_2, (tS_rd (by omega)).trans hrd⟩⟩ dX9_join_43
