/-! THE REFERENCE: join, judge -/
theorem tj {x y : RS} {k : Nat} {h : Nat → Int32} (hj : jk x y) (g : 0 < oM x k ∧ jE y (p_begin (pM x k) h) ∧ ∀ i, i < oM x k → ¬ y.2.1 11 i < 0 → Cl y k (oM x k) (hN x k) (hF x k) (hT x k) (hA x k) (pM x) i) : ∃ τ, Tk y k τ := by
  obtain ⟨g1, g2, g3⟩ := g
  have x2 := hj.1 2 (by decide) (by decide) (by decide) (by decide)
  have x5 := hj.1 5 (by decide) (by decide) (by decide) (by decide)
  have x6 := hj.1 6 (by decide) (by decide) (by decide) (by decide)
  have x1 := hj.1 1 (by decide) (by decide) (by decide) (by decide)
  have eo : oM y k = oM x k := by unfold oM; rw [x2]
  have en : hN y k = hN x k := by unfold hN; rw [x5]
  have ef : hF y k = hF x k := by unfold hF; rw [x6]
  have et : hT y k = hT x k := by unfold hT; rw [x6]
  have ea : hA y k = hA x k := by unfold hA; rw [x6]
  have ep : pM y = pM x := by unfold pM; rw [x1]
  refine ⟨tau y, typ_join (by rw [eo]; exact g1) g2 (fun i hi hS => ?_)⟩
  rw [eo] at hi
  rw [eo, en, ef, et, ea, ep]
  exact g3 i hi hS
/-- judge, as it is known -/
theorem RI_judge {x : RS} {n : Nat} {h : Nat → Int32} {q : PL} {k : Nat} (hI : RInv x) (hnn : x.1 0 = nI n) (h8 : n ≤ 8) (hk : k < n) : RInv (sH (sA (r_wbf k (oM x k) (hN x k) (hF x k) (hT x k) (hA x k) (pM x) (oM x k) 0 (r_forget x) (p_begin (pM x k) h, 0) true).2 9 k (bI (decide ((r_wbf k (oM x k) (hN x k) (hF x k) (hT x k) (hA x k) (pM x) (oM x k) 0 (r_forget x) (p_begin (pM x k) h, 0) true).1 < 0)))) q) := by
  obtain ⟨n2, g8, gnn, h3, h4, h5⟩ := id hI
  have hq := h3 k (by omega)
  have w := wk_wbf (k := k) (om := oM x k) (hn := hN x k) (hf := hF x k) (hto := hT x k) (hat := hA x k) (pm := pM x) hq.2.1 (by omega) (oM x k) 0 (r_forget x) (p_begin (pM x k) h, 0) true (by omega) (by show 0 ≤ 8; omega) hq.2.2.2.2.2.2
  have tt := fun (w9 : Int32) (y9 : RS) (e9 : r_wbf k (oM x k) (hN x k) (hF x k) (hT x k) (hA x k) (pM x) (oM x k) 0 (r_forget x) (p_begin (pM x k) h, 0) true = (w9, y9)) (l9 : w9 < 0) => (typ_wbf (n := pM x k) (h := h) (by omega) hq e9 l9).2
  generalize r_wbf k (oM x k) (hN x k) (hF x k) (hT x k) (hA x k) (pM x) (oM x k) 0 (r_forget x) (p_begin (pM x k) h, 0) true = R at w tt ⊢
  refine RI_jdg hI (by omega) (fun n9 e9 h9 => ?_) (fun j a b c d => ?_) ?_ w.2.2.1 (w.2.2.2 dp_forget) (fun z => ⟨_, tt R.1 R.2 rfl (of_decide_eq_true z)⟩)
  · have := nI_inj (by omega) (by omega) (hnn.symm.trans e9)
    omega
  · rw [w.1 j a b]
    exact (jk_forget x).1 j a b c d
  · rw [w.2.1]
    rfl
theorem sH_13 {y : RS} {q : PL} : (sH y q).1 13 = y.1 13 := by
  show upd y.1 15 (nI q.2) 13 = _
  rw [upd_oth (by decide)]
theorem keep_jk {x y : RS} {k : Nat} {v : Int32} {q : PL} (h : jk x y) : (sH (sA y 9 k v) q).1 0 = x.1 0 ∧ ∀ j, j < 9 → (sH (sA y 9 k v) q).2.1 j = x.2.1 j := by
  refine ⟨?_, fun j hj => ?_⟩
  · show upd y.1 15 (nI q.2) 0 = _
    rw [upd_oth (by decide)]
    exact h.2.1 0 (by decide) (by decide) (by decide)
  · show va_up (sA y 9 k v).2.1 14 q.1 j = _
    have : va_up (sA y 9 k v).2.1 14 q.1 j = (sA y 9 k v).2.1 j := by
      have : j ≠ 14 := by omega
      simp [va_up, this]
    rw [this, sA_o (by omega)]
    exact h.1 j (by omega) (by omega) (by omega) (by omega)
theorem keep_sH {x : RS} {q : PL} : (sH x q).1 0 = x.1 0 ∧ ∀ j, j < 9 → (sH x q).2.1 j = x.2.1 j := by
  refine ⟨?_, fun j hj => ?_⟩
  · show upd x.1 15 (nI q.2) 0 = _
    rw [upd_oth (by decide)]
  · show va_up x.2.1 14 q.1 j = _
    have : j ≠ 14 := by omega
    simp [va_up, this]
theorem v_X10_join : mVm yX10_join cX10_join 3 (some .int) 1 := ⟨cd_X10_join, im_X10_join, se_X10_join, ini_X10, by decide, by decide, by decide +kernel⟩
set_option maxHeartbeats 4000000 in
set_option maxRecDepth 100000 in
theorem k_X10_join (Γ : mG) (l : Launch) (L : mI → Nat) (x : RS) (h : Nat → Int32) (d : Nat) (a : Int32) (hI : RInv x) (hI0 : RInv (sH x (h, d))) : mMet Γ l yX10_join cX10_join 3 (some .int) { frames := 9, cells := 0, slots := 0, locals := 210 } [.ref (L (.inl 0)), .int a] L (rM Γ L (sH x (h, d))) (mQi Γ (fun r L1 M1 => ∃ y : RS, L1 = L ∧ M1 = rM Γ L y ∧ RInv y ∧ y.1 0 = x.1 0 ∧ (∀ j, j < 9 → y.2.1 j = x.2.1 j) ∧ y.2.2 = x.2.2 ∧ ∃ n, n ≤ 8 ∧ x.1 0 = nI n ∧ ((r_isM n a = false ∧ r = -1 ∧ y.1 13 = x.1 13) ∨ (r_isM n a = true ∧ r = r_verdict (jv (jF a.toNatClampNeg (oM x a.toNatClampNeg) (hN x a.toNatClampNeg) (hF x a.toNatClampNeg) (hT x a.toNatClampNeg) (hA x a.toNatClampNeg) (pM x) x h).1) ∧ y.1 13 = nI (jF a.toNatClampNeg (oM x a.toNatClampNeg) (hN x a.toNatClampNeg) (hF x a.toNatClampNeg) (hT x a.toNatClampNeg) (hA x a.toNatClampNeg) (pM x) x h).2)))) := by
  obtain ⟨n, h8, hnn, h3, h4, h5⟩ := id hI
  refine m_start (by decide) (Nat.le_of_ble_eq_true rfl) ?_
  intro p e s m args below meth c A ls X hr hlk hnm hw hS hl
  have hx := X.1.1
  have hb := X.1.2.1
  have hl : lv_has ls 3 [(0, .ref (L (.inl 0))), (1, .int a)] := hl
  refine lv_aload_n hx hb dX10_join_0 rfl (lv_at hl 0 rfl) ?_
  refine lv_iload_n hx hb dX10_join_1 rfl (lv_at hl 1 rfl) ?_
  refine m_calli (m_runV (i := .inl 0) (ci := 8) (As := [.int a]) (rest := []) X (k_X10_isMethod Γ l L (sH x (h, d)) a n hnn h8) v_X10_isMethod ml_X10_130 hw hS rfl rfl rfl rfl hl.1 ⟨Nat.le_of_ble_eq_true rfl, Nat.le_of_ble_eq_true rfl⟩ (Nat.le_of_ble_eq_true rfl) ⟨Nat.le_of_ble_eq_true rfl, Nat.le_of_ble_eq_true rfl⟩ dX10_join_2) hS (fun r_2 L1 M1 H locs hp_1 hw hS => ?_)
  obtain ⟨rfl, e1, e2⟩ := hp_1
  rw [e1, e2] at hw; clear e1 e2
  refine lv_if_ne (tgt := 10) hx hb dX10_join_5 (by decide) (fun c_3 => ?_) (fun c_3 => ?_)
  · skip
    have c_3 := bI_t c_3
    obtain ⟨k, hk, ha⟩ := isM_nat c_3
    have hk8 : k < 8 := by omega
    have hq := h3 k hk8
    refine lv_aload_n hx hb dX10_join_10 rfl (lv_at hl 0 rfl) ?_
    refine lv_iload_n hx hb dX10_join_11 rfl (lv_at hl 1 rfl) ?_
    refine m_calli (m_runV (i := .inl 0) (ci := 8) (As := [.int a]) (rest := []) X (k_X10_wrongJoined Γ l L x h d a k (oM x k) (hN x k) (hF x k) (hT x k) (hA x k) (hW x k) (pM x) ha hk8 hq) v_X10_wrongJoined ml_X10_231 hw hS rfl rfl rfl rfl hl.1 ⟨Nat.le_of_ble_eq_true rfl, Nat.le_of_ble_eq_true rfl⟩ (Nat.le_of_ble_eq_true rfl) ⟨Nat.le_of_ble_eq_true rfl, Nat.le_of_ble_eq_true rfl⟩ dX10_join_12) hS (fun r_w L1 M1 H locs hp_w hw hS => ?_)
    obtain ⟨y, q, e1, e2, hjk, hdp, hgd, hrw, h13⟩ := hp_w
    rw [e1, e2] at hw; clear e1 e2
    refine lv_istore_n (lv' := [(2, .int r_w), (0, .ref (L (.inl 0))), (1, .int a)]) hx hb dX10_join_15 rfl hl (by decide) rfl (fun ls hl => ?_)
    refine lv_aload_n hx hb dX10_join_16 rfl (lv_at hl 1 rfl) ?_
    refine r_get9 X hw dX10_join_17 ?_
    refine lv_iload_n hx hb dX10_join_20 rfl (lv_at hl 2 rfl) ?_
    refine lv_iload_n hx hb dX10_join_21 rfl (lv_at hl 0 rfl) ?_
    refine lv_if_ge (tgt := 29) hx hb dX10_join_22 (by decide) (fun c_4 => ?_) (fun c_4 => ?_)
    · skip
      refine lv_iconst (v := 0) hx hb dX10_join_29 (by decide) ?_
      refine h_ast9 (n := k) X hw hS ha (by omega) dX10_join_30 (fun H locs hw hS => ?_)
      refine lv_iload_n hx hb dX10_join_31 rfl (lv_at hl 0 rfl) ?_
      refine lv_if_ge (tgt := 39) hx hb dX10_join_32 (by decide) (fun c_5 => ?_) (fun c_5 => ?_)
      · skip
        refine lv_iconst (v := 1) hx hb dX10_join_39 (by decide) ?_
        refine lv_iload_n hx hb dX10_join_40 rfl (lv_at hl 0 rfl) ?_
        refine lv_iadd hx hb dX10_join_41 ?_
        exact m_iret X hr hlk hw hS (Nat.zero_le _) (Nat.zero_le _) ⟨sH (sA y 9 k (bI false)) (q.1, q.2), rfl, rfl, RI_jdg hI hk8 (fun n9 e9 h9 => (by have := nI_inj (by omega) (by omega) (hnn.symm.trans e9); omega)) hjk.1 (hjk.2.1 0 (by decide) (by decide) (by decide)) hjk.2.2 hdp (fun z => (by cases z)), (keep_jk hjk).1, (keep_jk hjk).2, hjk.2.2, n, h8, hnn, Or.inr ⟨c_3, by rw [ha, nI_clamp (by omega), ← hrw]; unfold r_verdict; first | (rw [if_pos (Int32.not_le.mp (by assumption))]; done) | (rw [if_neg (Int32.not_lt.mpr (by assumption))]; done) | exact absurd (by assumption) (by assumption), by rw [ha, nI_clamp (by omega)]; exact sH_13.trans h13⟩⟩ dX10_join_42
      · skip
        refine lv_iconst (v := 0) hx hb dX10_join_35 (by decide) ?_
        refine lv_goto (tgt := 42) hx hb dX10_join_36 (by decide) ?_
        exact m_iret X hr hlk hw hS (Nat.zero_le _) (Nat.zero_le _) ⟨sH (sA y 9 k (bI false)) (q.1, q.2), rfl, rfl, RI_jdg hI hk8 (fun n9 e9 h9 => (by have := nI_inj (by omega) (by omega) (hnn.symm.trans e9); omega)) hjk.1 (hjk.2.1 0 (by decide) (by decide) (by decide)) hjk.2.2 hdp (fun z => (by cases z)), (keep_jk hjk).1, (keep_jk hjk).2, hjk.2.2, n, h8, hnn, Or.inr ⟨c_3, by rw [ha, nI_clamp (by omega), ← hrw]; unfold r_verdict; first | (rw [if_pos (Int32.not_le.mp (by assumption))]; done) | (rw [if_neg (Int32.not_lt.mpr (by assumption))]; done) | exact absurd (by assumption) (by assumption), by rw [ha, nI_clamp (by omega)]; exact sH_13.trans h13⟩⟩ dX10_join_42
    · skip
      refine lv_iconst (v := 1) hx hb dX10_join_25 (by decide) ?_
      refine lv_goto (tgt := 30) hx hb dX10_join_26 (by decide) ?_
      refine h_ast9 (n := k) X hw hS ha (by omega) dX10_join_30 (fun H locs hw hS => ?_)
      refine lv_iload_n hx hb dX10_join_31 rfl (lv_at hl 0 rfl) ?_
      refine lv_if_ge (tgt := 39) hx hb dX10_join_32 (by decide) (fun c_6 => ?_) (fun c_6 => ?_)
      · skip
        refine lv_iconst (v := 1) hx hb dX10_join_39 (by decide) ?_
        refine lv_iload_n hx hb dX10_join_40 rfl (lv_at hl 0 rfl) ?_
        refine lv_iadd hx hb dX10_join_41 ?_
        exact m_iret X hr hlk hw hS (Nat.zero_le _) (Nat.zero_le _) ⟨sH (sA y 9 k (bI true)) (q.1, q.2), rfl, rfl, RI_jdg hI hk8 (fun n9 e9 h9 => (by have := nI_inj (by omega) (by omega) (hnn.symm.trans e9); omega)) hjk.1 (hjk.2.1 0 (by decide) (by decide) (by decide)) hjk.2.2 hdp (fun z => tj hjk (hgd (by first | exact Int32.not_le.mp (by assumption) | exact absurd (by assumption) (by assumption)))), (keep_jk hjk).1, (keep_jk hjk).2, hjk.2.2, n, h8, hnn, Or.inr ⟨c_3, by rw [ha, nI_clamp (by omega), ← hrw]; unfold r_verdict; first | (rw [if_pos (Int32.not_le.mp (by assumption))]; done) | (rw [if_neg (Int32.not_lt.mpr (by assumption))]; done) | exact absurd (by assumption) (by assumption), by rw [ha, nI_clamp (by omega)]; exact sH_13.trans h13⟩⟩ dX10_join_42
      · skip
        refine lv_iconst (v := 0) hx hb dX10_join_35 (by decide) ?_
        refine lv_goto (tgt := 42) hx hb dX10_join_36 (by decide) ?_
        exact m_iret X hr hlk hw hS (Nat.zero_le _) (Nat.zero_le _) ⟨sH (sA y 9 k (bI true)) (q.1, q.2), rfl, rfl, RI_jdg hI hk8 (fun n9 e9 h9 => (by have := nI_inj (by omega) (by omega) (hnn.symm.trans e9); omega)) hjk.1 (hjk.2.1 0 (by decide) (by decide) (by decide)) hjk.2.2 hdp (fun z => tj hjk (hgd (by first | exact Int32.not_le.mp (by assumption) | exact absurd (by assumption) (by assumption)))), (keep_jk hjk).1, (keep_jk hjk).2, hjk.2.2, n, h8, hnn, Or.inr ⟨c_3, by rw [ha, nI_clamp (by omega), ← hrw]; unfold r_verdict; first | (rw [if_pos (Int32.not_le.mp (by assumption))]; done) | (rw [if_neg (Int32.not_lt.mpr (by assumption))]; done) | exact absurd (by assumption) (by assumption), by rw [ha, nI_clamp (by omega)]; exact sH_13.trans h13⟩⟩ dX10_join_42
  · skip
    have c_3 := bI_f c_3
    refine lv_iconst (v := (-1)) hx hb dX10_join_8 (by decide) ?_
    exact m_iret X hr hlk hw hS (Nat.zero_le _) (Nat.zero_le _) ⟨_, rfl, rfl, hI0, keep_sH.1, keep_sH.2, rfl, n, h8, hnn, Or.inl ⟨c_3, rfl, sH_13⟩⟩ dX10_join_9
