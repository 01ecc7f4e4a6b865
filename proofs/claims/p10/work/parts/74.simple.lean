/-! THE REFERENCE'S MACHINE: a step keeps what the places hold -/
theorem bindE {o : Option PL} {g : PL → Option PL} {z : PL} (h : o.bind g = some z) : ∃ w, o = some w ∧ g w = some z := by
  cases o with
  | none => cases h
  | some w => exact ⟨w, rfl, h⟩
theorem iteE {P : Prop} [Decidable P] {o : Option PL} {z : PL} (h : (if P then o else none) = some z) : P ∧ o = some z := by
  by_cases c : P
  · rw [if_pos c] at h; exact ⟨c, h⟩
  · rw [if_neg c] at h; cases h
theorem iteN {P : Prop} [Decidable P] {o : Option PL} {z : PL} (h : (if P then none else o) = some z) : ¬ P ∧ o = some z := by
  by_cases c : P
  · rw [if_pos c] at h; cases h
  · rw [if_neg c] at h; exact ⟨c, h⟩
theorem upd_same {f : Nat → Int32} {k : Nat} {v : Int32} : upd f k v k = v := by simp [upd]
theorem upd_oth {f : Nat → Int32} {k j : Nat} {v : Int32} (h : j ≠ k) : upd f k v j = f j := by simp [upd, h]
theorem p_local_s {g : Nat → Int32} {t : Nat} {k : Int32} : p_local g t k t = k := upd_same
theorem upd0_vle {g : Nat → Int32} {t p : Nat} : vle (vc (g p)) (vc (upd g t 0 p)) = true := by
  by_cases w : p = t
  · subst w; rw [upd_same]; exact vle_0 _
  · rw [upd_oth w]; exact vle_rf _
theorem p_local1_vle {g : Nat → Int32} {t p : Nat} : vle (vc (g p)) (vc (p_local1 g t p)) = true := by
  unfold p_local1
  split
  · exact upd0_vle
  · exact vle_rf _
theorem p_local2_vle {g : Nat → Int32} {t p : Nat} : vle (vc (g p)) (vc (p_local2 g t p)) = true := by
  unfold p_local2
  split
  · exact upd0_vle
  · exact vle_rf _
theorem p_local_vle {g : Nat → Int32} {t p : Nat} {k : Int32} (h : p ≠ t) : vle (vc (g p)) (vc (p_local g t k p)) = true := by
  unfold p_local
  rw [upd_oth h]
  exact vle_tr p_local1_vle p_local2_vle
theorem p_6_vle {g : Nat → Int32} {t p : Nat} (h : p ≠ t) : vle (vc (g p)) (vc (upd (p_local (p_local g t 0) (t + 1) 3) t 2 p)) = true := by
  rw [upd_oth h]
  by_cases w : p = t + 1
  · subst w; rw [p_local_s]; exact vle_0 _
  · exact vle_tr (p_local_vle h) (p_local_vle w)
theorem p_repl0_vle {g : Nat → Int32} {v : Int32} {t p : Nat} : vle (vc (g p)) (vc (p_repl g v 0 t p)) = true := by
  unfold p_repl
  split
  · exact vle_0 _
  · exact vle_rf _
theorem vc_big {n : Nat} (h1 : 100 ≤ n) (h2 : n < 2000) : vc (nI n) = 4 := by
  have h3 : (100 : Int32) ≤ nI n := by
    rw [Int32.le_iff_toInt_le, nI_toInt (by omega)]
    have e : (100 : Int32).toInt = 100 := by decide
    omega
  have ne : ∀ m : Nat, m < 100 → ¬ nI n = nI m := by
    intro m hm e
    have := congrArg Int32.toInt e
    rw [nI_toInt (by omega), nI_toInt (by omega)] at this
    omega
  unfold vc
  have n4 : ¬ nI n = 4 := ne 4 (by omega)
  have n5 : ¬ nI n = 5 := ne 5 (by omega)
  rw [if_neg n4, if_neg n5]
  have hr : r_isRow (nI n) = false := by
    unfold r_isRow
    rw [r_isIn_32 (nI n) 21 25 21 25 (by decide) (by decide), nI_toInt (by omega)]
    exact decide_eq_false (by omega)
  rw [hr, if_neg (by decide), if_pos (Or.inr h3)]
theorem vc_un {n : Nat} (h : n < 1000) : vc (100 + nI n) = 4 := by
  have e : (100 + nI n : Int32) = nI (100 + n) := nadd (a := 100) (b := n) rfl rfl
  rw [e]
  exact vc_big (by omega) (by omega)
theorem nI_lN {n : Nat} (h : n < 1000) : (nI n).toInt64 = lN n := by
  apply Int64.toInt_inj.mp
  rw [i64_toInt, nI_toInt (by omega), lN_toInt (by omega)]
theorem ar3 {a : Int64} (h : r_isIn a 0 4 = true) (h2 : ¬ (2 : Int64) < a) : a = 0 ∨ a = 1 ∨ a = 2 := by
  obtain ⟨t, -, ht, rfl⟩ := isIn_natL (l := 0) (h := 4) (by decide) (by decide) (by decide) h
  have : t ≤ 2 := by
    rw [Int64.lt_iff_toInt_lt, lN_toInt (by omega)] at h2
    have e2 : (2 : Int64).toInt = 2 := by decide
    omega
  have h3 : t = 0 ∨ t = 1 ∨ t = 2 := by omega
  rcases h3 with rfl | rfl | rfl
  · exact Or.inl rfl
  · exact Or.inr (Or.inl rfl)
  · exact Or.inr (Or.inr rfl)
theorem p_made_vle {g : Nat → Int32} {v : Int32} {a : Int64} {t p om : Nat} (h : r_isIn a 1 5 = true) (hv : r_isM om (v - 100) = true) (hom : om ≤ 40) : vle (vc (g p)) (vc (p_repl g v (10 + a.toInt32) t p)) = true := by
  unfold p_repl
  split
  · rename_i c
    rw [c.2]
    obtain ⟨n, hn, e⟩ := isM_nat hv
    have ev : v = nI (100 + n) := by
      have e2 : v = (v - 100) + 100 := by
        apply Int32.toInt_inj.mp; simp
      rw [e2, e]
      have := nadd (x := nI n) (y := 100) (a := n) (b := 100) rfl rfl
      rw [this, Nat.add_comm]
    obtain ⟨u, hu1, hu2, rfl⟩ := isIn_natL (l := 1) (h := 5) (by decide) (by decide) (by decide) h
    rw [ev, vc_big (by omega) (by omega), lN_i]
    have : u = 1 ∨ u = 2 ∨ u = 3 ∨ u = 4 ∨ u = 5 := by omega
    rcases this with rfl | rfl | rfl | rfl | rfl <;> decide
  · exact vle_rf _
theorem p_op_pos {ops : Nat → Int32} {as : Nat → Int64} {k om : Nat} {pm : Nat → Nat} {i o : Int32} {v : Int64} {q z : PL} (h : p_op ops as k om pm i o v q = some z) : 0 ≤ o.toInt ∧ o.toInt ≤ 34 := by
  by_cases c : 0 ≤ o.toInt ∧ o.toInt ≤ 34
  · exact c
  · have h1 := p_op_out (ops := ops) (as := as) (k := k) (om := om) (pm := pm) (i := i) (o := o) (v := v) (q := q) (by omega)
    rw [h1, p_more_out (by omega)] at h
    cases h
theorem op_0 {ops : Nat → Int32} {as : Nat → Int64} {k om : Nat} {pm : Nat → Nat} {i : Int32} {v : Int64} {q : PL} : p_op ops as k om pm i 0 v q = p_push q 1 := by unfold p_op; rfl
theorem op_1 {ops : Nat → Int32} {as : Nat → Int64} {k om : Nat} {pm : Nat → Nat} {i : Int32} {v : Int64} {q : PL} : p_op ops as k om pm i 1 v q = p_pushL q := by unfold p_op; rfl
theorem op_2 {ops : Nat → Int32} {as : Nat → Int64} {k om : Nat} {pm : Nat → Nat} {i : Int32} {v : Int64} {q : PL} : p_op ops as k om pm i 2 v q = p_push q 4 := by unfold p_op; rfl
theorem op_3 {ops : Nat → Int32} {as : Nat → Int64} {k om : Nat} {pm : Nat → Nat} {i : Int32} {v : Int64} {q : PL} : p_op ops as k om pm i 3 v q = p_3 v q := by unfold p_op; rfl
theorem op_4 {ops : Nat → Int32} {as : Nat → Int64} {k om : Nat} {pm : Nat → Nat} {i : Int32} {v : Int64} {q : PL} : p_op ops as k om pm i 4 v q = p_4 v q := by unfold p_op; rfl
theorem op_5 {ops : Nat → Int32} {as : Nat → Int64} {k om : Nat} {pm : Nat → Nat} {i : Int32} {v : Int64} {q : PL} : p_op ops as k om pm i 5 v q = p_5 v q := by unfold p_op; rfl
theorem op_6 {ops : Nat → Int32} {as : Nat → Int64} {k om : Nat} {pm : Nat → Nat} {i : Int32} {v : Int64} {q : PL} : p_op ops as k om pm i 6 v q = p_6 v q := by unfold p_op; rfl
theorem op_7 {ops : Nat → Int32} {as : Nat → Int64} {k om : Nat} {pm : Nat → Nat} {i : Int32} {v : Int64} {q : PL} : p_op ops as k om pm i 7 v q = p_7 v q := by unfold p_op; rfl
theorem op_8 {ops : Nat → Int32} {as : Nat → Int64} {k om : Nat} {pm : Nat → Nat} {i : Int32} {v : Int64} {q : PL} : p_op ops as k om pm i 8 v q = p_8 v q := by unfold p_op; rfl
theorem op_9 {ops : Nat → Int32} {as : Nat → Int64} {k om : Nat} {pm : Nat → Nat} {i : Int32} {v : Int64} {q : PL} : p_op ops as k om pm i 9 v q = p_9 q := by unfold p_op; rfl
theorem op_10 {ops : Nat → Int32} {as : Nat → Int64} {k om : Nat} {pm : Nat → Nat} {i : Int32} {v : Int64} {q : PL} : p_op ops as k om pm i 10 v q = p_10 q := by unfold p_op; rfl
theorem op_11 {ops : Nat → Int32} {as : Nat → Int64} {k om : Nat} {pm : Nat → Nat} {i : Int32} {v : Int64} {q : PL} : p_op ops as k om pm i 11 v q = p_11 q := by unfold p_op; rfl
theorem op_12 {ops : Nat → Int32} {as : Nat → Int64} {k om : Nat} {pm : Nat → Nat} {i : Int32} {v : Int64} {q : PL} : p_op ops as k om pm i 12 v q = p_new q i v := by unfold p_op; rfl
theorem op_13 {ops : Nat → Int32} {as : Nat → Int64} {k om : Nat} {pm : Nat → Nat} {i : Int32} {v : Int64} {q : PL} : p_op ops as k om pm i 13 v q = p_made ops as om q v := by unfold p_op; rfl
theorem op_14 {ops : Nat → Int32} {as : Nat → Int64} {k om : Nat} {pm : Nat → Nat} {i : Int32} {v : Int64} {q : PL} : p_op ops as k om pm i 14 v q = p_14 q := by unfold p_op; rfl
theorem op_15 {ops : Nat → Int32} {as : Nat → Int64} {k om : Nat} {pm : Nat → Nat} {i : Int32} {v : Int64} {q : PL} : p_op ops as k om pm i 15 v q = p_15 v q := by unfold p_op; rfl
theorem op_16 {ops : Nat → Int32} {as : Nat → Int64} {k om : Nat} {pm : Nat → Nat} {i : Int32} {v : Int64} {q : PL} : p_op ops as k om pm i 16 v q = p_16 q := by unfold p_op; unfold p_more; rfl
theorem op_17 {ops : Nat → Int32} {as : Nat → Int64} {k om : Nat} {pm : Nat → Nat} {i : Int32} {v : Int64} {q : PL} : p_op ops as k om pm i 17 v q = p_17 q := by unfold p_op; unfold p_more; rfl
theorem op_18 {ops : Nat → Int32} {as : Nat → Int64} {k om : Nat} {pm : Nat → Nat} {i : Int32} {v : Int64} {q : PL} : p_op ops as k om pm i 18 v q = p_18 q := by unfold p_op; unfold p_more; rfl
theorem op_19 {ops : Nat → Int32} {as : Nat → Int64} {k om : Nat} {pm : Nat → Nat} {i : Int32} {v : Int64} {q : PL} : p_op ops as k om pm i 19 v q = p_19 q := by unfold p_op; unfold p_more; rfl
theorem op_20 {ops : Nat → Int32} {as : Nat → Int64} {k om : Nat} {pm : Nat → Nat} {i : Int32} {v : Int64} {q : PL} : p_op ops as k om pm i 20 v q = p_20 q := by unfold p_op; unfold p_more; rfl
theorem op_21 {ops : Nat → Int32} {as : Nat → Int64} {k om : Nat} {pm : Nat → Nat} {i : Int32} {v : Int64} {q : PL} : p_op ops as k om pm i 21 v q = p_21 21 v q := by unfold p_op; unfold p_more; rfl
theorem op_22 {ops : Nat → Int32} {as : Nat → Int64} {k om : Nat} {pm : Nat → Nat} {i : Int32} {v : Int64} {q : PL} : p_op ops as k om pm i 22 v q = p_21 22 v q := by unfold p_op; unfold p_more; rfl
theorem op_23 {ops : Nat → Int32} {as : Nat → Int64} {k om : Nat} {pm : Nat → Nat} {i : Int32} {v : Int64} {q : PL} : p_op ops as k om pm i 23 v q = p_23 q := by unfold p_op; unfold p_more; rfl
theorem op_24 {ops : Nat → Int32} {as : Nat → Int64} {k om : Nat} {pm : Nat → Nat} {i : Int32} {v : Int64} {q : PL} : p_op ops as k om pm i 24 v q = p_24 q := by unfold p_op; unfold p_more; rfl
theorem op_25 {ops : Nat → Int32} {as : Nat → Int64} {k om : Nat} {pm : Nat → Nat} {i : Int32} {v : Int64} {q : PL} : p_op ops as k om pm i 25 v q = p_23 q := by unfold p_op; unfold p_more; rfl
theorem op_26 {ops : Nat → Int32} {as : Nat → Int64} {k om : Nat} {pm : Nat → Nat} {i : Int32} {v : Int64} {q : PL} : p_op ops as k om pm i 26 v q = p_26 q := by unfold p_op; unfold p_more; rfl
theorem op_27 {ops : Nat → Int32} {as : Nat → Int64} {k om : Nat} {pm : Nat → Nat} {i : Int32} {v : Int64} {q : PL} : p_op ops as k om pm i 27 v q = p_27 q := by unfold p_op; unfold p_more; rfl
theorem op_28 {ops : Nat → Int32} {as : Nat → Int64} {k om : Nat} {pm : Nat → Nat} {i : Int32} {v : Int64} {q : PL} : p_op ops as k om pm i 28 v q = p_28 q := by unfold p_op; unfold p_more; rfl
theorem op_29 {ops : Nat → Int32} {as : Nat → Int64} {k om : Nat} {pm : Nat → Nat} {i : Int32} {v : Int64} {q : PL} : p_op ops as k om pm i 29 v q = p_29 om v q := by unfold p_op; unfold p_more; rfl
theorem op_30 {ops : Nat → Int32} {as : Nat → Int64} {k om : Nat} {pm : Nat → Nat} {i : Int32} {v : Int64} {q : PL} : p_op ops as k om pm i 30 v q = p_30 om v 1 q := by unfold p_op; unfold p_more; rfl
theorem op_31 {ops : Nat → Int32} {as : Nat → Int64} {k om : Nat} {pm : Nat → Nat} {i : Int32} {v : Int64} {q : PL} : p_op ops as k om pm i 31 v q = p_30 om v 10 q := by unfold p_op; unfold p_more; rfl
theorem op_32 {ops : Nat → Int32} {as : Nat → Int64} {k om : Nat} {pm : Nat → Nat} {i : Int32} {v : Int64} {q : PL} : p_op ops as k om pm i 32 v q = p_pop q 1 := by unfold p_op; unfold p_more; rfl
theorem op_33 {ops : Nat → Int32} {as : Nat → Int64} {k om : Nat} {pm : Nat → Nat} {i : Int32} {v : Int64} {q : PL} : p_op ops as k om pm i 33 v q = p_33 k pm v q := by unfold p_op; unfold p_more; rfl
theorem op_34 {ops : Nat → Int32} {as : Nat → Int64} {k om : Nat} {pm : Nat → Nat} {i : Int32} {v : Int64} {q : PL} : p_op ops as k om pm i 34 v q = p_pop q 1 := by unfold p_op; unfold p_more; rfl
theorem v_X10_simple : mVm yX10_simple cX10_simple 17 (some .int) 2 := ⟨cd_X10_simple, im_X10_simple, se_X10_simple, ini_X10, by decide, by decide, by decide +kernel⟩
set_option maxHeartbeats 4000000 in
set_option maxRecDepth 100000 in
theorem k_X10_simple (Γ : mG) (l : Launch) (L : mI → Nat) (x : RS) (o : Int32) (a : Int64) (f mk ii k om : Nat) (pm : Nat → Nat) (ops : Nat → Int32) (as : Nat → Int64) (b : Int32) (q z : PL) (hbi : b = nI ii) (hii : ii < 40) (hom : om ≤ 40) (hV : MV x f mk q) (hop : p_op ops as k om pm b o a q = some z) (ho : o.toInt < 14) : mMet Γ l yX10_simple cX10_simple 17 (some .int) { frames := 2, cells := 0, slots := 0, locals := 44 } [.ref (L (.inl 0)), .int o, .long a] L (rM Γ L x) (mQi Γ (fun r L1 M1 => ∃ (y : RS) (mk1 : Nat), L1 = L ∧ M1 = rM Γ L y ∧ mr x y f ∧ mo x y mk mk1 ∧ TH y mk1 ∧ ((r = 0 ∧ MV y f mk1 z) ∨ (1 ≤ r.toInt ∧ r.toInt ≤ 9 ∧ lo x y f)))) := by
  refine m_start (by decide) (Nat.le_of_ble_eq_true rfl) ?_
  intro p e s m args below meth c A ls X hr hlk hnm hw hS hl
  have hx := X.1.1
  have hb := X.1.2.1
  have hf0 : x.1 22 = nI f := hV.1
  have hf8 := hV.2.1
  have ho0 := p_op_pos hop
  have hmr : mr x x f := mr.rf
  have hmo : mo x x mk mk := mo.rf
  have hlo : lo x x f := fun _ _ => rfl
  have hl : lv_has ls 17 [(0, .ref (L (.inl 0))), (1, .int o), (2, .long a)] := hl
  refine lv_bipush (v := 16) hx hb dX10_simple_0 (by decide) ?_
  refine lv_aload_n hx hb dX10_simple_2 rfl (lv_at hl 0 rfl) ?_
  refine r_get22 X hw dX10_simple_3 ?_
  refine lv_imul hx hb dX10_simple_6 ?_
  refine lv_istore (lv' := [(4, .int (16 * (x.1 22))), (0, .ref (L (.inl 0))), (1, .int o), (2, .long a)]) hx hb dX10_simple_7 hl (by decide) rfl (fun ls hl => ?_)
  refine lv_iload_n hx hb dX10_simple_9 rfl (lv_at hl 2 rfl) ?_
  by_cases c_1 : o.toInt < 0 ∨ 12 < o.toInt
  · refine lv_tableOut (tgt := 329) hx hb dX10_simple_10 c_1 (by decide) ?_
    have hoe : o = 13 := Int32.toInt_inj.mp (show o.toInt = 13 by omega)
    rw [hoe, op_13] at hop
    obtain ⟨hin, hop⟩ := iteE hop
    have h1q : 1 ≤ q.2 := by omega
    cases hop
    refine lv_aload_n hx hb dX10_simple_329 rfl (lv_at hl 1 rfl) ?_
    have hpre_2 := And.intro h1q (And.intro (mvTop hV h1q) (mvDrop (e := 1) hV h1q))
    refine m_calll (m_runV (i := .inl 0) (ci := 8) (As := []) (rest := []) X (k_X10_take Γ l L x f _ hV.1 hV.2.1 hV.2.2.1 hpre_2.1 hV.2.2.2.1) v_X10_take ml_X10_293 hw hS rfl rfl rfl rfl hl.1 ⟨Nat.le_of_ble_eq_true rfl, Nat.le_of_ble_eq_true rfl⟩ (Nat.le_of_ble_eq_true rfl) ⟨Nat.le_of_ble_eq_true rfl, Nat.le_of_ble_eq_true rfl⟩ dX10_simple_330) hS (fun r_2 L1 M1 H locs hp_2 hw hS => ?_)
    obtain ⟨er_2, e1, e2⟩ := hp_2
    rw [e1, e2] at hw; clear e1 e2
    obtain ⟨-, hv_2, hV, hq_2⟩ := hpre_2
    rw [← er_2] at hv_2
    clear er_2
    generalize sA x 19 f (nI (q.2 - 1)) = y_2 at hw hV hq_2
    have hmr := hmr.tr hq_2.1
    have hmo := hmo.tr hq_2.2.1
    have hlo : lo x y_2 f := fun p hp => (hq_2.2.2 p hp).trans (hlo p hp)
    have hv_2 := VT_mo hq_2.2.1.1 hq_2.2.1.2 hv_2
    refine lv_lstore (lv' := [(15, .long r_2), (4, .int (16 * (x.1 22))), (0, .ref (L (.inl 0))), (1, .int o), (2, .long a)]) hx hb dX10_simple_333 hl (by decide) rfl (fun ls hl => ?_)
    refine lv_iconst (v := 0) hx hb dX10_simple_335 (by decide) ?_
    have hV := mvLe (q' := p_repl q.1 (q.1 (7 + q.2)) (10 + a.toInt32) (8 + (q.2 - 1))) hV (fun p _ => p_made_vle hin.1 hin.2.2.1 hom)
    exact m_iret X hr hlk hw hS (Nat.zero_le _) (Nat.zero_le _) ⟨y_2, mk, rfl, rfl, hmr, hmo, hV.2.2.2.2.1, Or.inl ⟨rfl, hV⟩⟩ dX10_simple_336
  · have c_1b : o.toInt = 0 ∨ o.toInt = 1 ∨ o.toInt = 2 ∨ o.toInt = 3 ∨ o.toInt = 4 ∨ o.toInt = 5 ∨ o.toInt = 6 ∨ o.toInt = 7 ∨ o.toInt = 8 ∨ o.toInt = 9 ∨ o.toInt = 10 ∨ o.toInt = 11 ∨ o.toInt = 12 := by omega
    rcases c_1b with c_1v | c_1v | c_1v | c_1v | c_1v | c_1v | c_1v | c_1v | c_1v | c_1v | c_1v | c_1v | c_1v
    · have hoe : o = 0 := Int32.toInt_inj.mp c_1v
      refine lv_tableIn (off := 66) (tgt := 76) hx hb dX10_simple_10 (by omega) (by omega) (by rw [c_1v]; rfl) (by decide) ?_
      rw [hoe, op_0] at hop
      refine lv_aload_n hx hb dX10_simple_76 rfl (lv_at hl 1 rfl) ?_
      refine lv_lload_n hx hb dX10_simple_77 rfl (lv_at hl 3 rfl) ?_
      refine lv_l2i (v := a.toInt32) hx hb dX10_simple_78 rfl ?_
      refine lv_i2l (v := a.toInt32.toInt64) hx hb dX10_simple_79 rfl ?_
      have hpre_3 := mvPut (v := a.toInt32.toInt64) hV hop (trivial)
      refine m_callv (m_runV (i := .inl 0) (ci := 8) (As := [.long a.toInt32.toInt64]) (rest := []) X (k_X10_put Γ l L x a.toInt32.toInt64 f _ hV.1 hV.2.1 hV.2.2.1 hpre_3.1) v_X10_put ml_X10_238 hw hS rfl rfl rfl rfl hl.1 ⟨Nat.le_of_ble_eq_true rfl, Nat.le_of_ble_eq_true rfl⟩ (Nat.le_of_ble_eq_true rfl) ⟨Nat.le_of_ble_eq_true rfl, Nat.le_of_ble_eq_true rfl⟩ dX10_simple_80) hS (fun L1 M1 H locs hp_3 hw hS => ?_)
      obtain ⟨e1, e2⟩ := hp_3
      rw [e1, e2] at hw; clear e1 e2
      obtain ⟨-, hV, hq_3⟩ := hpre_3
      generalize r_put x f q.2 a.toInt32.toInt64 = y_3 at hw hV hq_3
      have hmr := hmr.tr hq_3.1
      have hmo := hmo.tr hq_3.2.1
      have hlo : lo x y_3 f := fun p hp => (hq_3.2.2 p hp).trans (hlo p hp)
      refine lv_iconst (v := 0) hx hb dX10_simple_83 (by decide) ?_
      exact m_iret X hr hlk hw hS (Nat.zero_le _) (Nat.zero_le _) ⟨y_3, mk, rfl, rfl, hmr, hmo, hV.2.2.2.2.1, Or.inl ⟨rfl, hV⟩⟩ dX10_simple_84
    · have hoe : o = 1 := Int32.toInt_inj.mp c_1v
      refine lv_tableIn (off := 75) (tgt := 85) hx hb dX10_simple_10 (by omega) (by omega) (by rw [c_1v]; rfl) (by decide) ?_
      rw [hoe, op_1] at hop
      refine lv_aload_n hx hb dX10_simple_85 rfl (lv_at hl 1 rfl) ?_
      refine lv_lload_n hx hb dX10_simple_86 rfl (lv_at hl 3 rfl) ?_
      have hpre_4 := mvPutL (v := a) hV hop
      refine m_callv (m_runV (i := .inl 0) (ci := 8) (As := [.long a]) (rest := []) X (k_X10_putLong Γ l L x a f _ hV.1 hV.2.1 hV.2.2.1 hpre_4.1) v_X10_putLong ml_X10_290 hw hS rfl rfl rfl rfl hl.1 ⟨Nat.le_of_ble_eq_true rfl, Nat.le_of_ble_eq_true rfl⟩ (Nat.le_of_ble_eq_true rfl) ⟨Nat.le_of_ble_eq_true rfl, Nat.le_of_ble_eq_true rfl⟩ dX10_simple_87) hS (fun L1 M1 H locs hp_4 hw hS => ?_)
      obtain ⟨e1, e2⟩ := hp_4
      rw [e1, e2] at hw; clear e1 e2
      obtain ⟨-, hV, hq_4⟩ := hpre_4
      generalize r_put2 x f q.2 a = y_4 at hw hV hq_4
      have hmr := hmr.tr hq_4.1
      have hmo := hmo.tr hq_4.2.1
      have hlo : lo x y_4 f := fun p hp => (hq_4.2.2 p hp).trans (hlo p hp)
      refine lv_iconst (v := 0) hx hb dX10_simple_90 (by decide) ?_
      exact m_iret X hr hlk hw hS (Nat.zero_le _) (Nat.zero_le _) ⟨y_4, mk, rfl, rfl, hmr, hmo, hV.2.2.2.2.1, Or.inl ⟨rfl, hV⟩⟩ dX10_simple_91
    · have hoe : o = 2 := Int32.toInt_inj.mp c_1v
      refine lv_tableIn (off := 82) (tgt := 92) hx hb dX10_simple_10 (by omega) (by omega) (by rw [c_1v]; rfl) (by decide) ?_
      rw [hoe, op_2] at hop
      refine lv_aload_n hx hb dX10_simple_92 rfl (lv_at hl 1 rfl) ?_
      refine lv_ldc2 (v := (-1)) hx hb X.1.2.2.2.1 (X.1.2.2.2.2 _ kl_X10_141) dX10_simple_93 ?_
      have hpre_5 := mvPut (v := (-1)) hV hop (by rw [vc_4]; rfl)
      refine m_callv (m_runV (i := .inl 0) (ci := 8) (As := [.long (-1)]) (rest := []) X (k_X10_put Γ l L x (-1) f _ hV.1 hV.2.1 hV.2.2.1 hpre_5.1) v_X10_put ml_X10_238 hw hS rfl rfl rfl rfl hl.1 ⟨Nat.le_of_ble_eq_true rfl, Nat.le_of_ble_eq_true rfl⟩ (Nat.le_of_ble_eq_true rfl) ⟨Nat.le_of_ble_eq_true rfl, Nat.le_of_ble_eq_true rfl⟩ dX10_simple_96) hS (fun L1 M1 H locs hp_5 hw hS => ?_)
      obtain ⟨e1, e2⟩ := hp_5
      rw [e1, e2] at hw; clear e1 e2
      obtain ⟨-, hV, hq_5⟩ := hpre_5
      generalize r_put x f q.2 (-1) = y_5 at hw hV hq_5
      have hmr := hmr.tr hq_5.1
      have hmo := hmo.tr hq_5.2.1
      have hlo : lo x y_5 f := fun p hp => (hq_5.2.2 p hp).trans (hlo p hp)
      refine lv_iconst (v := 0) hx hb dX10_simple_99 (by decide) ?_
      exact m_iret X hr hlk hw hS (Nat.zero_le _) (Nat.zero_le _) ⟨y_5, mk, rfl, rfl, hmr, hmo, hV.2.2.2.2.1, Or.inl ⟨rfl, hV⟩⟩ dX10_simple_100
    · have hoe : o = 3 := Int32.toInt_inj.mp c_1v
      refine lv_tableIn (off := 91) (tgt := 101) hx hb dX10_simple_10 (by omega) (by omega) (by rw [c_1v]; rfl) (by decide) ?_
      rw [hoe, op_3] at hop
      obtain ⟨hin, hop⟩ := iteE hop
      obtain ⟨t, -, ht, hat⟩ := isIn_natL (l := 0) (h := 7) (by decide) (by decide) (by decide) hin.1
      have hix : p_ix a = t := by unfold p_ix; rw [hat, lN_i]; exact nI_clamp (by omega)
      rw [hix] at hop
      refine lv_aload_n hx hb dX10_simple_101 rfl (lv_at hl 1 rfl) ?_
      refine lv_aload_n hx hb dX10_simple_102 rfl (lv_at hl 1 rfl) ?_
      refine r_get18 X hw dX10_simple_103 ?_
      refine lv_iload hx hb dX10_simple_106 (lv_at hl 0 rfl) ?_
      refine lv_lload_n hx hb dX10_simple_108 rfl (lv_at hl 3 rfl) ?_
      refine lv_l2i (v := a.toInt32) hx hb dX10_simple_109 rfl ?_
      refine lv_iadd hx hb dX10_simple_110 ?_
      refine r_ald18N (n := (16 * f) + t) X hw (nadd (a := 16 * f) (b := t) (nmul (a := 16) (b := f) rfl hf0) ((congrArg Int64.toInt32 hat).trans (lN_i t))) (by omega) dX10_simple_111 ?_
      have hpre_6 := mvPut (v := x.2.2 18 ((16 * f) + t)) hV hop (hV.2.2.2.2.2 t (by omega))
      refine m_callv (m_runV (i := .inl 0) (ci := 8) (As := [.long (x.2.2 18 ((16 * f) + t))]) (rest := []) X (k_X10_put Γ l L x (x.2.2 18 ((16 * f) + t)) f _ hV.1 hV.2.1 hV.2.2.1 hpre_6.1) v_X10_put ml_X10_238 hw hS rfl rfl rfl rfl hl.1 ⟨Nat.le_of_ble_eq_true rfl, Nat.le_of_ble_eq_true rfl⟩ (Nat.le_of_ble_eq_true rfl) ⟨Nat.le_of_ble_eq_true rfl, Nat.le_of_ble_eq_true rfl⟩ dX10_simple_112) hS (fun L1 M1 H locs hp_6 hw hS => ?_)
      obtain ⟨e1, e2⟩ := hp_6
      rw [e1, e2] at hw; clear e1 e2
      obtain ⟨-, hV, hq_6⟩ := hpre_6
      generalize r_put x f q.2 (x.2.2 18 ((16 * f) + t)) = y_6 at hw hV hq_6
      have hmr := hmr.tr hq_6.1
      have hmo := hmo.tr hq_6.2.1
      have hlo : lo x y_6 f := fun p hp => (hq_6.2.2 p hp).trans (hlo p hp)
      refine lv_iconst (v := 0) hx hb dX10_simple_115 (by decide) ?_
      exact m_iret X hr hlk hw hS (Nat.zero_le _) (Nat.zero_le _) ⟨y_6, mk, rfl, rfl, hmr, hmo, hV.2.2.2.2.1, Or.inl ⟨rfl, hV⟩⟩ dX10_simple_116
    · have hoe : o = 4 := Int32.toInt_inj.mp c_1v
      refine lv_tableIn (off := 107) (tgt := 117) hx hb dX10_simple_10 (by omega) (by omega) (by rw [c_1v]; rfl) (by decide) ?_
      rw [hoe, op_4] at hop
      obtain ⟨hin, hop⟩ := iteE hop
      obtain ⟨t, -, ht, hat⟩ := isIn_natL (l := 0) (h := 7) (by decide) (by decide) (by decide) hin.1
      have hix : p_ix a = t := by unfold p_ix; rw [hat, lN_i]; exact nI_clamp (by omega)
      rw [hix] at hop
      have h1q := p_one_lt hin.2
      cases hop
      refine lv_aload_n hx hb dX10_simple_117 rfl (lv_at hl 1 rfl) ?_
      refine r_get18 X hw dX10_simple_118 ?_
      refine lv_iload hx hb dX10_simple_121 (lv_at hl 0 rfl) ?_
      refine lv_lload_n hx hb dX10_simple_123 rfl (lv_at hl 3 rfl) ?_
      refine lv_l2i (v := a.toInt32) hx hb dX10_simple_124 rfl ?_
      refine lv_iadd hx hb dX10_simple_125 ?_
      refine lv_iload_n hx hb dX10_simple_126 rfl (lv_at hl 2 rfl) ?_
      refine lv_iconst (v := 4) hx hb dX10_simple_127 (by decide) ?_
      refine lv_icmp_ne (tgt := 138) hx hb dX10_simple_128 (by decide) (fun c => absurd hoe c) (fun _ => ?_)
      refine lv_aload_n hx hb dX10_simple_131 rfl (lv_at hl 1 rfl) ?_
      have hpre_7 := And.intro h1q (And.intro (mvTop hV h1q) (mvDrop (e := 1) hV h1q))
      refine m_calll (m_runV (i := .inl 0) (ci := 8) (As := []) (rest := [.int ((16 * (x.1 22)) + a.toInt32), .ref (L (.inr (0, 18, 0)))]) X (k_X10_take Γ l L x f _ hV.1 hV.2.1 hV.2.2.1 hpre_7.1 hV.2.2.2.1) v_X10_take ml_X10_293 hw hS rfl rfl rfl rfl hl.1 ⟨Nat.le_of_ble_eq_true rfl, Nat.le_of_ble_eq_true rfl⟩ (Nat.le_of_ble_eq_true rfl) ⟨Nat.le_of_ble_eq_true rfl, Nat.le_of_ble_eq_true rfl⟩ dX10_simple_132) hS (fun r_7 L1 M1 H locs hp_7 hw hS => ?_)
      obtain ⟨er_7, e1, e2⟩ := hp_7
      rw [e1, e2] at hw; clear e1 e2
      obtain ⟨-, hv_7, hV, hq_7⟩ := hpre_7
      rw [← er_7] at hv_7
      clear er_7
      generalize sA x 19 f (nI (q.2 - 1)) = y_7 at hw hV hq_7
      have hmr := hmr.tr hq_7.1
      have hmo := hmo.tr hq_7.2.1
      have hlo : lo x y_7 f := fun p hp => (hq_7.2.2 p hp).trans (hlo p hp)
      have hv_7 := VT_mo hq_7.2.1.1 hq_7.2.1.2 hv_7
      refine lv_goto (tgt := 142) hx hb dX10_simple_135 (by decide) ?_
      refine r_ast18N (n := (16 * f) + t) X hw hS (nadd (a := 16 * f) (b := t) (nmul (a := 16) (b := f) rfl hf0) ((congrArg Int64.toInt32 hat).trans (lN_i t))) (by omega) dX10_simple_142 (fun H locs hw hS => ?_)
      obtain ⟨hV, hq_8⟩ := mvSet (a := t) (v := r_7) (q' := p_local q.1 t (q.1 (8 + (q.2 - 1)))) hV (by omega) (fun p _ hne => p_local_vle hne) (by rw [p_local_s, show 8 + (q.2 - 1) = 7 + q.2 by omega]; exact hv_7)
      generalize sJ y_7 18 ((16 * f) + t) r_7 = y_8 at hw hV hq_8
      have hmr := hmr.tr hq_8.1
      have hmo := hmo.tr hq_8.2
      refine lv_iconst (v := 0) hx hb dX10_simple_143 (by decide) ?_
      exact m_iret X hr hlk hw hS (Nat.zero_le _) (Nat.zero_le _) ⟨y_8, mk, rfl, rfl, hmr, hmo, hV.2.2.2.2.1, Or.inl ⟨rfl, hV⟩⟩ dX10_simple_144
    · have hoe : o = 5 := Int32.toInt_inj.mp c_1v
      refine lv_tableIn (off := 135) (tgt := 145) hx hb dX10_simple_10 (by omega) (by omega) (by rw [c_1v]; rfl) (by decide) ?_
      rw [hoe, op_5] at hop
      obtain ⟨hin, hop⟩ := iteE hop
      obtain ⟨t, -, ht, hat⟩ := isIn_natL (l := 0) (h := 6) (by decide) (by decide) (by decide) hin.1
      have hix : p_ix a = t := by unfold p_ix; rw [hat, lN_i]; exact nI_clamp (by omega)
      refine lv_aload_n hx hb dX10_simple_145 rfl (lv_at hl 1 rfl) ?_
      refine lv_aload_n hx hb dX10_simple_146 rfl (lv_at hl 1 rfl) ?_
      refine r_get18 X hw dX10_simple_147 ?_
      refine lv_iload hx hb dX10_simple_150 (lv_at hl 0 rfl) ?_
      refine lv_lload_n hx hb dX10_simple_152 rfl (lv_at hl 3 rfl) ?_
      refine lv_l2i (v := a.toInt32) hx hb dX10_simple_153 rfl ?_
      refine lv_iadd hx hb dX10_simple_154 ?_
      refine r_ald18N (n := (16 * f) + t) X hw (nadd (a := 16 * f) (b := t) (nmul (a := 16) (b := f) rfl hf0) ((congrArg Int64.toInt32 hat).trans (lN_i t))) (by omega) dX10_simple_155 ?_
      have hpre_9 := mvPutL (v := x.2.2 18 ((16 * f) + t)) hV hop
      refine m_callv (m_runV (i := .inl 0) (ci := 8) (As := [.long (x.2.2 18 ((16 * f) + t))]) (rest := []) X (k_X10_putLong Γ l L x (x.2.2 18 ((16 * f) + t)) f _ hV.1 hV.2.1 hV.2.2.1 hpre_9.1) v_X10_putLong ml_X10_290 hw hS rfl rfl rfl rfl hl.1 ⟨Nat.le_of_ble_eq_true rfl, Nat.le_of_ble_eq_true rfl⟩ (Nat.le_of_ble_eq_true rfl) ⟨Nat.le_of_ble_eq_true rfl, Nat.le_of_ble_eq_true rfl⟩ dX10_simple_156) hS (fun L1 M1 H locs hp_9 hw hS => ?_)
      obtain ⟨e1, e2⟩ := hp_9
      rw [e1, e2] at hw; clear e1 e2
      obtain ⟨-, hV, hq_9⟩ := hpre_9
      generalize r_put2 x f q.2 (x.2.2 18 ((16 * f) + t)) = y_9 at hw hV hq_9
      have hmr := hmr.tr hq_9.1
      have hmo := hmo.tr hq_9.2.1
      have hlo : lo x y_9 f := fun p hp => (hq_9.2.2 p hp).trans (hlo p hp)
      refine lv_iconst (v := 0) hx hb dX10_simple_159 (by decide) ?_
      exact m_iret X hr hlk hw hS (Nat.zero_le _) (Nat.zero_le _) ⟨y_9, mk, rfl, rfl, hmr, hmo, hV.2.2.2.2.1, Or.inl ⟨rfl, hV⟩⟩ dX10_simple_160
    · have hoe : o = 6 := Int32.toInt_inj.mp c_1v
      refine lv_tableIn (off := 107) (tgt := 117) hx hb dX10_simple_10 (by omega) (by omega) (by rw [c_1v]; rfl) (by decide) ?_
      rw [hoe, op_6] at hop
      obtain ⟨hin, hop⟩ := iteE hop
      obtain ⟨t, -, ht, hat⟩ := isIn_natL (l := 0) (h := 6) (by decide) (by decide) (by decide) hin
      have hix : p_ix a = t := by unfold p_ix; rw [hat, lN_i]; exact nI_clamp (by omega)
      rw [hix] at hop
      obtain ⟨w1, h1, hop⟩ := bindE hop
      cases hop
      refine lv_aload_n hx hb dX10_simple_117 rfl (lv_at hl 1 rfl) ?_
      refine r_get18 X hw dX10_simple_118 ?_
      refine lv_iload hx hb dX10_simple_121 (lv_at hl 0 rfl) ?_
      refine lv_lload_n hx hb dX10_simple_123 rfl (lv_at hl 3 rfl) ?_
      refine lv_l2i (v := a.toInt32) hx hb dX10_simple_124 rfl ?_
      refine lv_iadd hx hb dX10_simple_125 ?_
      refine lv_iload_n hx hb dX10_simple_126 rfl (lv_at hl 2 rfl) ?_
      refine lv_iconst (v := 4) hx hb dX10_simple_127 (by decide) ?_
      refine lv_icmp_ne (tgt := 138) hx hb dX10_simple_128 (by decide) (fun _ => ?_) (fun c => absurd (hoe.symm.trans c) (by decide))
      refine lv_aload_n hx hb dX10_simple_138 rfl (lv_at hl 1 rfl) ?_
      have hpre_10 := mvTakeL hV h1
      refine m_calll (m_runV (i := .inl 0) (ci := 8) (As := []) (rest := [.int ((16 * (x.1 22)) + a.toInt32), .ref (L (.inr (0, 18, 0)))]) X (k_X10_takeLong Γ l L x f _ hV.1 hV.2.1 hV.2.2.1 hpre_10.1 hV.2.2.2.1) v_X10_takeLong ml_X10_297 hw hS rfl rfl rfl rfl hl.1 ⟨Nat.le_of_ble_eq_true rfl, Nat.le_of_ble_eq_true rfl⟩ (Nat.le_of_ble_eq_true rfl) ⟨Nat.le_of_ble_eq_true rfl, Nat.le_of_ble_eq_true rfl⟩ dX10_simple_139) hS (fun r_10 L1 M1 H locs hp_10 hw hS => ?_)
      obtain ⟨er_10, e1, e2⟩ := hp_10
      rw [e1, e2] at hw; clear e1 e2
      obtain ⟨-, hV, hq_10⟩ := hpre_10
      clear er_10
      generalize sA x 19 f (nI (q.2 - 2)) = y_10 at hw hV hq_10
      have hmr := hmr.tr hq_10.1
      have hmo := hmo.tr hq_10.2.1
      have hlo : lo x y_10 f := fun p hp => (hq_10.2.2 p hp).trans (hlo p hp)
      refine r_ast18N (n := (16 * f) + t) X hw hS (nadd (a := 16 * f) (b := t) (nmul (a := 16) (b := f) rfl hf0) ((congrArg Int64.toInt32 hat).trans (lN_i t))) (by omega) dX10_simple_142 (fun H locs hw hS => ?_)
      obtain ⟨hV, hq_11⟩ := mvSet (a := t) (v := r_10) (q' := upd (p_local (p_local w1.1 t 0) (t + 1) 3) t 2) hV (by omega) (fun p _ hne => p_6_vle hne) (by rw [upd_same]; trivial)
      generalize sJ y_10 18 ((16 * f) + t) r_10 = y_11 at hw hV hq_11
      have hmr := hmr.tr hq_11.1
      have hmo := hmo.tr hq_11.2
      refine lv_iconst (v := 0) hx hb dX10_simple_143 (by decide) ?_
      exact m_iret X hr hlk hw hS (Nat.zero_le _) (Nat.zero_le _) ⟨y_11, mk, rfl, rfl, hmr, hmo, hV.2.2.2.2.1, Or.inl ⟨rfl, hV⟩⟩ dX10_simple_144
    · have hoe : o = 7 := Int32.toInt_inj.mp c_1v
      refine lv_tableIn (off := 151) (tgt := 161) hx hb dX10_simple_10 (by omega) (by omega) (by rw [c_1v]; rfl) (by decide) ?_
      rw [hoe, op_7] at hop
      obtain ⟨hin, hop⟩ := iteE hop
      obtain ⟨w1, h1, hop⟩ := bindE hop
      obtain ⟨w2, h2, hop⟩ := bindE hop
      refine lv_aload_n hx hb dX10_simple_161 rfl (lv_at hl 1 rfl) ?_
      have hpre_12 := mvTake hV h1
      refine m_calll (m_runV (i := .inl 0) (ci := 8) (As := []) (rest := []) X (k_X10_take Γ l L x f _ hV.1 hV.2.1 hV.2.2.1 hpre_12.1 hV.2.2.2.1) v_X10_take ml_X10_293 hw hS rfl rfl rfl rfl hl.1 ⟨Nat.le_of_ble_eq_true rfl, Nat.le_of_ble_eq_true rfl⟩ (Nat.le_of_ble_eq_true rfl) ⟨Nat.le_of_ble_eq_true rfl, Nat.le_of_ble_eq_true rfl⟩ dX10_simple_162) hS (fun r_12 L1 M1 H locs hp_12 hw hS => ?_)
      obtain ⟨er_12, e1, e2⟩ := hp_12
      rw [e1, e2] at hw; clear e1 e2
      obtain ⟨-, hv_12, hV, hq_12⟩ := hpre_12
      rw [← er_12] at hv_12
      clear er_12
      generalize sA x 19 f (nI (q.2 - 1)) = y_12 at hw hV hq_12
      have hmr := hmr.tr hq_12.1
      have hmo := hmo.tr hq_12.2.1
      have hlo : lo x y_12 f := fun p hp => (hq_12.2.2 p hp).trans (hlo p hp)
      have hv_12 := VT_mo hq_12.2.1.1 hq_12.2.1.2 hv_12
      refine lv_l2i (v := r_12.toInt32) hx hb dX10_simple_165 rfl ?_
      refine lv_istore (lv' := [(5, .int r_12.toInt32), (4, .int (16 * (x.1 22))), (0, .ref (L (.inl 0))), (1, .int o), (2, .long a)]) hx hb dX10_simple_166 hl (by decide) rfl (fun ls hl => ?_)
      refine lv_aload_n hx hb dX10_simple_168 rfl (lv_at hl 2 rfl) ?_
      have hpre_13 := mvTake hV h2
      refine m_calll (m_runV (i := .inl 0) (ci := 8) (As := []) (rest := []) X (k_X10_take Γ l L y_12 f _ hV.1 hV.2.1 hV.2.2.1 hpre_13.1 hV.2.2.2.1) v_X10_take ml_X10_293 hw hS rfl rfl rfl rfl hl.1 ⟨Nat.le_of_ble_eq_true rfl, Nat.le_of_ble_eq_true rfl⟩ (Nat.le_of_ble_eq_true rfl) ⟨Nat.le_of_ble_eq_true rfl, Nat.le_of_ble_eq_true rfl⟩ dX10_simple_169) hS (fun r_13 L1 M1 H locs hp_13 hw hS => ?_)
      obtain ⟨er_13, e1, e2⟩ := hp_13
      rw [e1, e2] at hw; clear e1 e2
      obtain ⟨-, hv_13, hV, hq_13⟩ := hpre_13
      rw [← er_13] at hv_13
      clear er_13
      generalize sA y_12 19 f (nI (w1.2 - 1)) = y_13 at hw hV hq_13
      have hmr := hmr.tr hq_13.1
      have hmo := hmo.tr hq_13.2.1
      have hlo : lo x y_13 f := fun p hp => (hq_13.2.2 p hp).trans (hlo p hp)
      have hv_12 := VT_mo hq_13.2.1.1 hq_13.2.1.2 hv_12
      have hv_13 := VT_mo hq_13.2.1.1 hq_13.2.1.2 hv_13
      refine lv_l2i (v := r_13.toInt32) hx hb dX10_simple_172 rfl ?_
      refine lv_istore (lv' := [(6, .int r_13.toInt32), (5, .int r_12.toInt32), (4, .int (16 * (x.1 22))), (0, .ref (L (.inl 0))), (1, .int o), (2, .long a)]) hx hb dX10_simple_173 hl (by decide) rfl (fun ls hl => ?_)
      refine lv_lload_n hx hb dX10_simple_175 rfl (lv_at hl 5 rfl) ?_
      refine lv_ldc2 (v := (2)) hx hb X.1.2.2.2.1 (X.1.2.2.2.2 _ kl_X10_276) dX10_simple_176 ?_
      refine m_lcmp_le (tgt := 191) hx hb dX10_simple_179 dX10_simple_180 (by decide) (fun c_14 => ?_) (fun c_14 => ?_)
      · skip
        refine lv_aload_n hx hb dX10_simple_191 rfl (lv_at hl 3 rfl) ?_
        refine lv_lload_n hx hb dX10_simple_192 rfl (lv_at hl 5 rfl) ?_
        refine lv_iload hx hb dX10_simple_193 (lv_at hl 0 rfl) ?_
        refine lv_iload hx hb dX10_simple_195 (lv_at hl 1 rfl) ?_
        refine m_calli (m_runS (As := [.long a, .int r_13.toInt32, .int r_12.toInt32]) (rest := [.ref (L (.inl 0))]) X (k_X10_arith Γ l L (rM Γ L y_13) a r_13.toInt32 r_12.toInt32 (by first | exact Or.inr (Or.inr (Or.inr (by assumption))) | (rcases ar3 hin (by assumption) with z9 | z9 | z9 <;> simp [z9]; done))) s_X10_arith ml_X10_300 hw hS rfl hl.1 ⟨Nat.le_of_ble_eq_true rfl, Nat.le_of_ble_eq_true rfl⟩ (Nat.le_of_ble_eq_true rfl) ⟨Nat.le_of_ble_eq_true rfl, Nat.le_of_ble_eq_true rfl⟩ dX10_simple_197) hS (fun r_15 L1 M1 H locs hp_15 hw hS => ?_)
        obtain ⟨-, e1, e2⟩ := hp_15
        rw [e1, e2] at hw; clear e1 e2
        refine lv_i2l (v := r_15.toInt64) hx hb dX10_simple_200 rfl ?_
        have hpre_16 := mvPut (v := r_15.toInt64) hV hop (trivial)
        refine m_callv (m_runV (i := .inl 0) (ci := 8) (As := [.long r_15.toInt64]) (rest := []) X (k_X10_put Γ l L y_13 r_15.toInt64 f _ hV.1 hV.2.1 hV.2.2.1 hpre_16.1) v_X10_put ml_X10_238 hw hS rfl rfl rfl rfl hl.1 ⟨Nat.le_of_ble_eq_true rfl, Nat.le_of_ble_eq_true rfl⟩ (Nat.le_of_ble_eq_true rfl) ⟨Nat.le_of_ble_eq_true rfl, Nat.le_of_ble_eq_true rfl⟩ dX10_simple_201) hS (fun L1 M1 H locs hp_16 hw hS => ?_)
        obtain ⟨e1, e2⟩ := hp_16
        rw [e1, e2] at hw; clear e1 e2
        obtain ⟨-, hV, hq_16⟩ := hpre_16
        generalize r_put y_13 f w2.2 r_15.toInt64 = y_16 at hw hV hq_16
        have hmr := hmr.tr hq_16.1
        have hmo := hmo.tr hq_16.2.1
        have hlo : lo x y_16 f := fun p hp => (hq_16.2.2 p hp).trans (hlo p hp)
        have hv_12 := VT_mo hq_16.2.1.1 hq_16.2.1.2 hv_12
        have hv_13 := VT_mo hq_16.2.1.1 hq_16.2.1.2 hv_13
        refine lv_iconst (v := 0) hx hb dX10_simple_204 (by decide) ?_
        exact m_iret X hr hlk hw hS (Nat.zero_le _) (Nat.zero_le _) ⟨y_16, mk, rfl, rfl, hmr, hmo, hV.2.2.2.2.1, Or.inl ⟨rfl, hV⟩⟩ dX10_simple_205
      · skip
        refine lv_iload hx hb dX10_simple_183 (lv_at hl 1 rfl) ?_
        refine lv_if_ne (tgt := 191) hx hb dX10_simple_185 (by decide) (fun c_17 => ?_) (fun c_17 => ?_)
        · skip
          refine lv_aload_n hx hb dX10_simple_191 rfl (lv_at hl 3 rfl) ?_
          refine lv_lload_n hx hb dX10_simple_192 rfl (lv_at hl 5 rfl) ?_
          refine lv_iload hx hb dX10_simple_193 (lv_at hl 0 rfl) ?_
          refine lv_iload hx hb dX10_simple_195 (lv_at hl 1 rfl) ?_
          refine m_calli (m_runS (As := [.long a, .int r_13.toInt32, .int r_12.toInt32]) (rest := [.ref (L (.inl 0))]) X (k_X10_arith Γ l L (rM Γ L y_13) a r_13.toInt32 r_12.toInt32 (by first | exact Or.inr (Or.inr (Or.inr (by assumption))) | (rcases ar3 hin (by assumption) with z9 | z9 | z9 <;> simp [z9]; done))) s_X10_arith ml_X10_300 hw hS rfl hl.1 ⟨Nat.le_of_ble_eq_true rfl, Nat.le_of_ble_eq_true rfl⟩ (Nat.le_of_ble_eq_true rfl) ⟨Nat.le_of_ble_eq_true rfl, Nat.le_of_ble_eq_true rfl⟩ dX10_simple_197) hS (fun r_18 L1 M1 H locs hp_18 hw hS => ?_)
          obtain ⟨-, e1, e2⟩ := hp_18
          rw [e1, e2] at hw; clear e1 e2
          refine lv_i2l (v := r_18.toInt64) hx hb dX10_simple_200 rfl ?_
          have hpre_19 := mvPut (v := r_18.toInt64) hV hop (trivial)
          refine m_callv (m_runV (i := .inl 0) (ci := 8) (As := [.long r_18.toInt64]) (rest := []) X (k_X10_put Γ l L y_13 r_18.toInt64 f _ hV.1 hV.2.1 hV.2.2.1 hpre_19.1) v_X10_put ml_X10_238 hw hS rfl rfl rfl rfl hl.1 ⟨Nat.le_of_ble_eq_true rfl, Nat.le_of_ble_eq_true rfl⟩ (Nat.le_of_ble_eq_true rfl) ⟨Nat.le_of_ble_eq_true rfl, Nat.le_of_ble_eq_true rfl⟩ dX10_simple_201) hS (fun L1 M1 H locs hp_19 hw hS => ?_)
          obtain ⟨e1, e2⟩ := hp_19
          rw [e1, e2] at hw; clear e1 e2
          obtain ⟨-, hV, hq_19⟩ := hpre_19
          generalize r_put y_13 f w2.2 r_18.toInt64 = y_19 at hw hV hq_19
          have hmr := hmr.tr hq_19.1
          have hmo := hmo.tr hq_19.2.1
          have hlo : lo x y_19 f := fun p hp => (hq_19.2.2 p hp).trans (hlo p hp)
          have hv_12 := VT_mo hq_19.2.1.1 hq_19.2.1.2 hv_12
          have hv_13 := VT_mo hq_19.2.1.1 hq_19.2.1.2 hv_13
          refine lv_iconst (v := 0) hx hb dX10_simple_204 (by decide) ?_
          exact m_iret X hr hlk hw hS (Nat.zero_le _) (Nat.zero_le _) ⟨y_19, mk, rfl, rfl, hmr, hmo, hV.2.2.2.2.1, Or.inl ⟨rfl, hV⟩⟩ dX10_simple_205
        · skip
          refine lv_bipush (v := 6) hx hb dX10_simple_188 (by decide) ?_
          exact m_iret X hr hlk hw hS (Nat.zero_le _) (Nat.zero_le _) ⟨y_13, mk, rfl, rfl, hmr, hmo, hV.2.2.2.2.1, Or.inr ⟨by decide, by decide, hlo⟩⟩ dX10_simple_190
    · have hoe : o = 8 := Int32.toInt_inj.mp c_1v
      refine lv_tableIn (off := 196) (tgt := 206) hx hb dX10_simple_10 (by omega) (by omega) (by rw [c_1v]; rfl) (by decide) ?_
      rw [hoe, op_8] at hop
      obtain ⟨hin, hop⟩ := iteE hop
      obtain ⟨w1, h1, hop⟩ := bindE hop
      obtain ⟨w2, h2, hop⟩ := bindE hop
      refine lv_aload_n hx hb dX10_simple_206 rfl (lv_at hl 1 rfl) ?_
      have hpre_20 := mvTakeL hV h1
      refine m_calll (m_runV (i := .inl 0) (ci := 8) (As := []) (rest := []) X (k_X10_takeLong Γ l L x f _ hV.1 hV.2.1 hV.2.2.1 hpre_20.1 hV.2.2.2.1) v_X10_takeLong ml_X10_297 hw hS rfl rfl rfl rfl hl.1 ⟨Nat.le_of_ble_eq_true rfl, Nat.le_of_ble_eq_true rfl⟩ (Nat.le_of_ble_eq_true rfl) ⟨Nat.le_of_ble_eq_true rfl, Nat.le_of_ble_eq_true rfl⟩ dX10_simple_207) hS (fun r_20 L1 M1 H locs hp_20 hw hS => ?_)
      obtain ⟨er_20, e1, e2⟩ := hp_20
      rw [e1, e2] at hw; clear e1 e2
      obtain ⟨-, hV, hq_20⟩ := hpre_20
      clear er_20
      generalize sA x 19 f (nI (q.2 - 2)) = y_20 at hw hV hq_20
      have hmr := hmr.tr hq_20.1
      have hmo := hmo.tr hq_20.2.1
      have hlo : lo x y_20 f := fun p hp => (hq_20.2.2 p hp).trans (hlo p hp)
      refine lv_lstore (lv' := [(7, .long r_20), (4, .int (16 * (x.1 22))), (0, .ref (L (.inl 0))), (1, .int o), (2, .long a)]) hx hb dX10_simple_210 hl (by decide) rfl (fun ls hl => ?_)
      refine lv_aload_n hx hb dX10_simple_212 rfl (lv_at hl 2 rfl) ?_
      have hpre_21 := mvTakeL hV h2
      refine m_calll (m_runV (i := .inl 0) (ci := 8) (As := []) (rest := []) X (k_X10_takeLong Γ l L y_20 f _ hV.1 hV.2.1 hV.2.2.1 hpre_21.1 hV.2.2.2.1) v_X10_takeLong ml_X10_297 hw hS rfl rfl rfl rfl hl.1 ⟨Nat.le_of_ble_eq_true rfl, Nat.le_of_ble_eq_true rfl⟩ (Nat.le_of_ble_eq_true rfl) ⟨Nat.le_of_ble_eq_true rfl, Nat.le_of_ble_eq_true rfl⟩ dX10_simple_213) hS (fun r_21 L1 M1 H locs hp_21 hw hS => ?_)
      obtain ⟨er_21, e1, e2⟩ := hp_21
      rw [e1, e2] at hw; clear e1 e2
      obtain ⟨-, hV, hq_21⟩ := hpre_21
      clear er_21
      generalize sA y_20 19 f (nI (w1.2 - 2)) = y_21 at hw hV hq_21
      have hmr := hmr.tr hq_21.1
      have hmo := hmo.tr hq_21.2.1
      have hlo : lo x y_21 f := fun p hp => (hq_21.2.2 p hp).trans (hlo p hp)
      refine lv_lstore (lv' := [(9, .long r_21), (7, .long r_20), (4, .int (16 * (x.1 22))), (0, .ref (L (.inl 0))), (1, .int o), (2, .long a)]) hx hb dX10_simple_216 hl (by decide) rfl (fun ls hl => ?_)
      refine lv_lload_n hx hb dX10_simple_218 rfl (lv_at hl 5 rfl) ?_
      refine lv_ldc2 (v := (2)) hx hb X.1.2.2.2.1 (X.1.2.2.2.2 _ kl_X10_276) dX10_simple_219 ?_
      refine m_lcmp_le (tgt := 236) hx hb dX10_simple_222 dX10_simple_223 (by decide) (fun c_22 => ?_) (fun c_22 => ?_)
      · skip
        refine lv_aload_n hx hb dX10_simple_236 rfl (lv_at hl 3 rfl) ?_
        refine lv_lload_n hx hb dX10_simple_237 rfl (lv_at hl 5 rfl) ?_
        refine lv_lload hx hb dX10_simple_238 (lv_at hl 0 rfl) ?_
        refine lv_lload hx hb dX10_simple_240 (lv_at hl 1 rfl) ?_
        refine m_calll (m_runS (As := [.long a, .long r_21, .long r_20]) (rest := [.ref (L (.inl 0))]) X (k_X10_arithLong Γ l L (rM Γ L y_21) a r_21 r_20 (by first | exact Or.inr (Or.inr (Or.inr (by assumption))) | (rcases ar3 hin (by assumption) with z9 | z9 | z9 <;> simp [z9]; done))) s_X10_arithLong ml_X10_304 hw hS rfl hl.1 ⟨Nat.le_of_ble_eq_true rfl, Nat.le_of_ble_eq_true rfl⟩ (Nat.le_of_ble_eq_true rfl) ⟨Nat.le_of_ble_eq_true rfl, Nat.le_of_ble_eq_true rfl⟩ dX10_simple_242) hS (fun r_23 L1 M1 H locs hp_23 hw hS => ?_)
        obtain ⟨-, e1, e2⟩ := hp_23
        rw [e1, e2] at hw; clear e1 e2
        have hpre_24 := mvPutL (v := r_23) hV hop
        refine m_callv (m_runV (i := .inl 0) (ci := 8) (As := [.long r_23]) (rest := []) X (k_X10_putLong Γ l L y_21 r_23 f _ hV.1 hV.2.1 hV.2.2.1 hpre_24.1) v_X10_putLong ml_X10_290 hw hS rfl rfl rfl rfl hl.1 ⟨Nat.le_of_ble_eq_true rfl, Nat.le_of_ble_eq_true rfl⟩ (Nat.le_of_ble_eq_true rfl) ⟨Nat.le_of_ble_eq_true rfl, Nat.le_of_ble_eq_true rfl⟩ dX10_simple_245) hS (fun L1 M1 H locs hp_24 hw hS => ?_)
        obtain ⟨e1, e2⟩ := hp_24
        rw [e1, e2] at hw; clear e1 e2
        obtain ⟨-, hV, hq_24⟩ := hpre_24
        generalize r_put2 y_21 f w2.2 r_23 = y_24 at hw hV hq_24
        have hmr := hmr.tr hq_24.1
        have hmo := hmo.tr hq_24.2.1
        have hlo : lo x y_24 f := fun p hp => (hq_24.2.2 p hp).trans (hlo p hp)
        refine lv_iconst (v := 0) hx hb dX10_simple_248 (by decide) ?_
        exact m_iret X hr hlk hw hS (Nat.zero_le _) (Nat.zero_le _) ⟨y_24, mk, rfl, rfl, hmr, hmo, hV.2.2.2.2.1, Or.inl ⟨rfl, hV⟩⟩ dX10_simple_249
      · skip
        refine lv_lload hx hb dX10_simple_226 (lv_at hl 1 rfl) ?_
        refine lv_lconst (v := 0) hx hb dX10_simple_228 (by decide) ?_
        refine m_lcmp_ne (tgt := 236) hx hb dX10_simple_229 dX10_simple_230 (by decide) (fun c_25 => ?_) (fun c_25 => ?_)
        · skip
          refine lv_aload_n hx hb dX10_simple_236 rfl (lv_at hl 3 rfl) ?_
          refine lv_lload_n hx hb dX10_simple_237 rfl (lv_at hl 5 rfl) ?_
          refine lv_lload hx hb dX10_simple_238 (lv_at hl 0 rfl) ?_
          refine lv_lload hx hb dX10_simple_240 (lv_at hl 1 rfl) ?_
          refine m_calll (m_runS (As := [.long a, .long r_21, .long r_20]) (rest := [.ref (L (.inl 0))]) X (k_X10_arithLong Γ l L (rM Γ L y_21) a r_21 r_20 (by first | exact Or.inr (Or.inr (Or.inr (by assumption))) | (rcases ar3 hin (by assumption) with z9 | z9 | z9 <;> simp [z9]; done))) s_X10_arithLong ml_X10_304 hw hS rfl hl.1 ⟨Nat.le_of_ble_eq_true rfl, Nat.le_of_ble_eq_true rfl⟩ (Nat.le_of_ble_eq_true rfl) ⟨Nat.le_of_ble_eq_true rfl, Nat.le_of_ble_eq_true rfl⟩ dX10_simple_242) hS (fun r_26 L1 M1 H locs hp_26 hw hS => ?_)
          obtain ⟨-, e1, e2⟩ := hp_26
          rw [e1, e2] at hw; clear e1 e2
          have hpre_27 := mvPutL (v := r_26) hV hop
          refine m_callv (m_runV (i := .inl 0) (ci := 8) (As := [.long r_26]) (rest := []) X (k_X10_putLong Γ l L y_21 r_26 f _ hV.1 hV.2.1 hV.2.2.1 hpre_27.1) v_X10_putLong ml_X10_290 hw hS rfl rfl rfl rfl hl.1 ⟨Nat.le_of_ble_eq_true rfl, Nat.le_of_ble_eq_true rfl⟩ (Nat.le_of_ble_eq_true rfl) ⟨Nat.le_of_ble_eq_true rfl, Nat.le_of_ble_eq_true rfl⟩ dX10_simple_245) hS (fun L1 M1 H locs hp_27 hw hS => ?_)
          obtain ⟨e1, e2⟩ := hp_27
          rw [e1, e2] at hw; clear e1 e2
          obtain ⟨-, hV, hq_27⟩ := hpre_27
          generalize r_put2 y_21 f w2.2 r_26 = y_27 at hw hV hq_27
          have hmr := hmr.tr hq_27.1
          have hmo := hmo.tr hq_27.2.1
          have hlo : lo x y_27 f := fun p hp => (hq_27.2.2 p hp).trans (hlo p hp)
          refine lv_iconst (v := 0) hx hb dX10_simple_248 (by decide) ?_
          exact m_iret X hr hlk hw hS (Nat.zero_le _) (Nat.zero_le _) ⟨y_27, mk, rfl, rfl, hmr, hmo, hV.2.2.2.2.1, Or.inl ⟨rfl, hV⟩⟩ dX10_simple_249
        · skip
          refine lv_bipush (v := 6) hx hb dX10_simple_233 (by decide) ?_
          exact m_iret X hr hlk hw hS (Nat.zero_le _) (Nat.zero_le _) ⟨y_21, mk, rfl, rfl, hmr, hmo, hV.2.2.2.2.1, Or.inr ⟨by decide, by decide, hlo⟩⟩ dX10_simple_235
    · have hoe : o = 9 := Int32.toInt_inj.mp c_1v
      refine lv_tableIn (off := 240) (tgt := 250) hx hb dX10_simple_10 (by omega) (by omega) (by rw [c_1v]; rfl) (by decide) ?_
      rw [hoe, op_9] at hop
      obtain ⟨w1, h1, hop⟩ := bindE hop
      refine lv_aload_n hx hb dX10_simple_250 rfl (lv_at hl 1 rfl) ?_
      refine lv_aload_n hx hb dX10_simple_251 rfl (lv_at hl 1 rfl) ?_
      have hpre_28 := mvTake hV h1
      refine m_calll (m_runV (i := .inl 0) (ci := 8) (As := []) (rest := [.ref (L (.inl 0))]) X (k_X10_take Γ l L x f _ hV.1 hV.2.1 hV.2.2.1 hpre_28.1 hV.2.2.2.1) v_X10_take ml_X10_293 hw hS rfl rfl rfl rfl hl.1 ⟨Nat.le_of_ble_eq_true rfl, Nat.le_of_ble_eq_true rfl⟩ (Nat.le_of_ble_eq_true rfl) ⟨Nat.le_of_ble_eq_true rfl, Nat.le_of_ble_eq_true rfl⟩ dX10_simple_252) hS (fun r_28 L1 M1 H locs hp_28 hw hS => ?_)
      obtain ⟨er_28, e1, e2⟩ := hp_28
      rw [e1, e2] at hw; clear e1 e2
      obtain ⟨-, hv_28, hV, hq_28⟩ := hpre_28
      rw [← er_28] at hv_28
      clear er_28
      generalize sA x 19 f (nI (q.2 - 1)) = y_28 at hw hV hq_28
      have hmr := hmr.tr hq_28.1
      have hmo := hmo.tr hq_28.2.1
      have hlo : lo x y_28 f := fun p hp => (hq_28.2.2 p hp).trans (hlo p hp)
      have hv_28 := VT_mo hq_28.2.1.1 hq_28.2.1.2 hv_28
      have hpre_29 := mvPutL (v := r_28) hV hop
      refine m_callv (m_runV (i := .inl 0) (ci := 8) (As := [.long r_28]) (rest := []) X (k_X10_putLong Γ l L y_28 r_28 f _ hV.1 hV.2.1 hV.2.2.1 hpre_29.1) v_X10_putLong ml_X10_290 hw hS rfl rfl rfl rfl hl.1 ⟨Nat.le_of_ble_eq_true rfl, Nat.le_of_ble_eq_true rfl⟩ (Nat.le_of_ble_eq_true rfl) ⟨Nat.le_of_ble_eq_true rfl, Nat.le_of_ble_eq_true rfl⟩ dX10_simple_255) hS (fun L1 M1 H locs hp_29 hw hS => ?_)
      obtain ⟨e1, e2⟩ := hp_29
      rw [e1, e2] at hw; clear e1 e2
      obtain ⟨-, hV, hq_29⟩ := hpre_29
      generalize r_put2 y_28 f w1.2 r_28 = y_29 at hw hV hq_29
      have hmr := hmr.tr hq_29.1
      have hmo := hmo.tr hq_29.2.1
      have hlo : lo x y_29 f := fun p hp => (hq_29.2.2 p hp).trans (hlo p hp)
      have hv_28 := VT_mo hq_29.2.1.1 hq_29.2.1.2 hv_28
      refine lv_iconst (v := 0) hx hb dX10_simple_258 (by decide) ?_
      exact m_iret X hr hlk hw hS (Nat.zero_le _) (Nat.zero_le _) ⟨y_29, mk, rfl, rfl, hmr, hmo, hV.2.2.2.2.1, Or.inl ⟨rfl, hV⟩⟩ dX10_simple_259
    · have hoe : o = 10 := Int32.toInt_inj.mp c_1v
      refine lv_tableIn (off := 250) (tgt := 260) hx hb dX10_simple_10 (by omega) (by omega) (by rw [c_1v]; rfl) (by decide) ?_
      rw [hoe, op_10] at hop
      obtain ⟨w1, h1, hop⟩ := bindE hop
      refine lv_aload_n hx hb dX10_simple_260 rfl (lv_at hl 1 rfl) ?_
      refine lv_aload_n hx hb dX10_simple_261 rfl (lv_at hl 1 rfl) ?_
      have hpre_30 := mvTakeL hV h1
      refine m_calll (m_runV (i := .inl 0) (ci := 8) (As := []) (rest := [.ref (L (.inl 0))]) X (k_X10_takeLong Γ l L x f _ hV.1 hV.2.1 hV.2.2.1 hpre_30.1 hV.2.2.2.1) v_X10_takeLong ml_X10_297 hw hS rfl rfl rfl rfl hl.1 ⟨Nat.le_of_ble_eq_true rfl, Nat.le_of_ble_eq_true rfl⟩ (Nat.le_of_ble_eq_true rfl) ⟨Nat.le_of_ble_eq_true rfl, Nat.le_of_ble_eq_true rfl⟩ dX10_simple_262) hS (fun r_30 L1 M1 H locs hp_30 hw hS => ?_)
      obtain ⟨er_30, e1, e2⟩ := hp_30
      rw [e1, e2] at hw; clear e1 e2
      obtain ⟨-, hV, hq_30⟩ := hpre_30
      clear er_30
      generalize sA x 19 f (nI (q.2 - 2)) = y_30 at hw hV hq_30
      have hmr := hmr.tr hq_30.1
      have hmo := hmo.tr hq_30.2.1
      have hlo : lo x y_30 f := fun p hp => (hq_30.2.2 p hp).trans (hlo p hp)
      refine lv_l2i (v := r_30.toInt32) hx hb dX10_simple_265 rfl ?_
      refine lv_i2l (v := r_30.toInt32.toInt64) hx hb dX10_simple_266 rfl ?_
      have hpre_31 := mvPut (v := r_30.toInt32.toInt64) hV hop (trivial)
      refine m_callv (m_runV (i := .inl 0) (ci := 8) (As := [.long r_30.toInt32.toInt64]) (rest := []) X (k_X10_put Γ l L y_30 r_30.toInt32.toInt64 f _ hV.1 hV.2.1 hV.2.2.1 hpre_31.1) v_X10_put ml_X10_238 hw hS rfl rfl rfl rfl hl.1 ⟨Nat.le_of_ble_eq_true rfl, Nat.le_of_ble_eq_true rfl⟩ (Nat.le_of_ble_eq_true rfl) ⟨Nat.le_of_ble_eq_true rfl, Nat.le_of_ble_eq_true rfl⟩ dX10_simple_267) hS (fun L1 M1 H locs hp_31 hw hS => ?_)
      obtain ⟨e1, e2⟩ := hp_31
      rw [e1, e2] at hw; clear e1 e2
      obtain ⟨-, hV, hq_31⟩ := hpre_31
      generalize r_put y_30 f w1.2 r_30.toInt32.toInt64 = y_31 at hw hV hq_31
      have hmr := hmr.tr hq_31.1
      have hmo := hmo.tr hq_31.2.1
      have hlo : lo x y_31 f := fun p hp => (hq_31.2.2 p hp).trans (hlo p hp)
      refine lv_iconst (v := 0) hx hb dX10_simple_270 (by decide) ?_
      exact m_iret X hr hlk hw hS (Nat.zero_le _) (Nat.zero_le _) ⟨y_31, mk, rfl, rfl, hmr, hmo, hV.2.2.2.2.1, Or.inl ⟨rfl, hV⟩⟩ dX10_simple_271
    · have hoe : o = 11 := Int32.toInt_inj.mp c_1v
      refine lv_tableIn (off := 262) (tgt := 272) hx hb dX10_simple_10 (by omega) (by omega) (by rw [c_1v]; rfl) (by decide) ?_
      rw [hoe, op_11] at hop
      obtain ⟨w1, h1, hop⟩ := bindE hop
      obtain ⟨w2, h2, hop⟩ := bindE hop
      refine lv_aload_n hx hb dX10_simple_272 rfl (lv_at hl 1 rfl) ?_
      have hpre_32 := mvTakeL hV h1
      refine m_calll (m_runV (i := .inl 0) (ci := 8) (As := []) (rest := []) X (k_X10_takeLong Γ l L x f _ hV.1 hV.2.1 hV.2.2.1 hpre_32.1 hV.2.2.2.1) v_X10_takeLong ml_X10_297 hw hS rfl rfl rfl rfl hl.1 ⟨Nat.le_of_ble_eq_true rfl, Nat.le_of_ble_eq_true rfl⟩ (Nat.le_of_ble_eq_true rfl) ⟨Nat.le_of_ble_eq_true rfl, Nat.le_of_ble_eq_true rfl⟩ dX10_simple_273) hS (fun r_32 L1 M1 H locs hp_32 hw hS => ?_)
      obtain ⟨er_32, e1, e2⟩ := hp_32
      rw [e1, e2] at hw; clear e1 e2
      obtain ⟨-, hV, hq_32⟩ := hpre_32
      clear er_32
      generalize sA x 19 f (nI (q.2 - 2)) = y_32 at hw hV hq_32
      have hmr := hmr.tr hq_32.1
      have hmo := hmo.tr hq_32.2.1
      have hlo : lo x y_32 f := fun p hp => (hq_32.2.2 p hp).trans (hlo p hp)
      refine lv_lstore (lv' := [(11, .long r_32), (4, .int (16 * (x.1 22))), (0, .ref (L (.inl 0))), (1, .int o), (2, .long a)]) hx hb dX10_simple_276 hl (by decide) rfl (fun ls hl => ?_)
      refine lv_aload_n hx hb dX10_simple_278 rfl (lv_at hl 2 rfl) ?_
      have hpre_33 := mvTakeL hV h2
      refine m_calll (m_runV (i := .inl 0) (ci := 8) (As := []) (rest := []) X (k_X10_takeLong Γ l L y_32 f _ hV.1 hV.2.1 hV.2.2.1 hpre_33.1 hV.2.2.2.1) v_X10_takeLong ml_X10_297 hw hS rfl rfl rfl rfl hl.1 ⟨Nat.le_of_ble_eq_true rfl, Nat.le_of_ble_eq_true rfl⟩ (Nat.le_of_ble_eq_true rfl) ⟨Nat.le_of_ble_eq_true rfl, Nat.le_of_ble_eq_true rfl⟩ dX10_simple_279) hS (fun r_33 L1 M1 H locs hp_33 hw hS => ?_)
      obtain ⟨er_33, e1, e2⟩ := hp_33
      rw [e1, e2] at hw; clear e1 e2
      obtain ⟨-, hV, hq_33⟩ := hpre_33
      clear er_33
      generalize sA y_32 19 f (nI (w1.2 - 2)) = y_33 at hw hV hq_33
      have hmr := hmr.tr hq_33.1
      have hmo := hmo.tr hq_33.2.1
      have hlo : lo x y_33 f := fun p hp => (hq_33.2.2 p hp).trans (hlo p hp)
      refine lv_lstore (lv' := [(13, .long r_33), (11, .long r_32), (4, .int (16 * (x.1 22))), (0, .ref (L (.inl 0))), (1, .int o), (2, .long a)]) hx hb dX10_simple_282 hl (by decide) rfl (fun ls hl => ?_)
      refine lv_aload_n hx hb dX10_simple_284 rfl (lv_at hl 3 rfl) ?_
      refine lv_lload hx hb dX10_simple_285 (lv_at hl 0 rfl) ?_
      refine lv_lload hx hb dX10_simple_287 (lv_at hl 1 rfl) ?_
      refine m_lcmp_ge (tgt := 297) hx hb dX10_simple_289 dX10_simple_290 (by decide) (fun c_34 => ?_) (fun c_34 => ?_)
      · skip
        refine lv_lconst (v := 0) hx hb dX10_simple_297 (by decide) ?_
        have hpre_35 := mvPut (v := 0) hV hop (trivial)
        refine m_callv (m_runV (i := .inl 0) (ci := 8) (As := [.long 0]) (rest := []) X (k_X10_put Γ l L y_33 0 f _ hV.1 hV.2.1 hV.2.2.1 hpre_35.1) v_X10_put ml_X10_238 hw hS rfl rfl rfl rfl hl.1 ⟨Nat.le_of_ble_eq_true rfl, Nat.le_of_ble_eq_true rfl⟩ (Nat.le_of_ble_eq_true rfl) ⟨Nat.le_of_ble_eq_true rfl, Nat.le_of_ble_eq_true rfl⟩ dX10_simple_298) hS (fun L1 M1 H locs hp_35 hw hS => ?_)
        obtain ⟨e1, e2⟩ := hp_35
        rw [e1, e2] at hw; clear e1 e2
        obtain ⟨-, hV, hq_35⟩ := hpre_35
        generalize r_put y_33 f w2.2 0 = y_35 at hw hV hq_35
        have hmr := hmr.tr hq_35.1
        have hmo := hmo.tr hq_35.2.1
        have hlo : lo x y_35 f := fun p hp => (hq_35.2.2 p hp).trans (hlo p hp)
        refine lv_iconst (v := 0) hx hb dX10_simple_301 (by decide) ?_
        exact m_iret X hr hlk hw hS (Nat.zero_le _) (Nat.zero_le _) ⟨y_35, mk, rfl, rfl, hmr, hmo, hV.2.2.2.2.1, Or.inl ⟨rfl, hV⟩⟩ dX10_simple_302
      · skip
        refine lv_lconst (v := 1) hx hb dX10_simple_293 (by decide) ?_
        refine lv_goto (tgt := 298) hx hb dX10_simple_294 (by decide) ?_
        have hpre_36 := mvPut (v := 1) hV hop (trivial)
        refine m_callv (m_runV (i := .inl 0) (ci := 8) (As := [.long 1]) (rest := []) X (k_X10_put Γ l L y_33 1 f _ hV.1 hV.2.1 hV.2.2.1 hpre_36.1) v_X10_put ml_X10_238 hw hS rfl rfl rfl rfl hl.1 ⟨Nat.le_of_ble_eq_true rfl, Nat.le_of_ble_eq_true rfl⟩ (Nat.le_of_ble_eq_true rfl) ⟨Nat.le_of_ble_eq_true rfl, Nat.le_of_ble_eq_true rfl⟩ dX10_simple_298) hS (fun L1 M1 H locs hp_36 hw hS => ?_)
        obtain ⟨e1, e2⟩ := hp_36
        rw [e1, e2] at hw; clear e1 e2
        obtain ⟨-, hV, hq_36⟩ := hpre_36
        generalize r_put y_33 f w2.2 1 = y_36 at hw hV hq_36
        have hmr := hmr.tr hq_36.1
        have hmo := hmo.tr hq_36.2.1
        have hlo : lo x y_36 f := fun p hp => (hq_36.2.2 p hp).trans (hlo p hp)
        refine lv_iconst (v := 0) hx hb dX10_simple_301 (by decide) ?_
        exact m_iret X hr hlk hw hS (Nat.zero_le _) (Nat.zero_le _) ⟨y_36, mk, rfl, rfl, hmr, hmo, hV.2.2.2.2.1, Or.inl ⟨rfl, hV⟩⟩ dX10_simple_302
    · have hoe : o = 12 := Int32.toInt_inj.mp c_1v
      refine lv_tableIn (off := 293) (tgt := 303) hx hb dX10_simple_10 (by omega) (by omega) (by rw [c_1v]; rfl) (by decide) ?_
      rw [hoe, op_12] at hop
      obtain ⟨hin, hop⟩ := iteE hop
      obtain ⟨-, hop⟩ := iteN hop
      have hm20le := hV.2.2.2.2.1.2.1
      refine lv_aload_n hx hb dX10_simple_303 rfl (lv_at hl 1 rfl) ?_
      refine r_get23 X hw dX10_simple_304 ?_
      refine lv_bipush (v := 20) hx hb dX10_simple_307 (by decide) ?_
      refine lv_icmp_ne (tgt := 315) hx hb dX10_simple_309 (by decide) (fun c_37 => ?_) (fun c_37 => ?_)
      · skip
        have c_37n : ¬ mk = 20 := nneT (a := mk) (b := 20) hV.2.2.2.2.1.1 rfl (by omega) (by omega) c_37
        have hm20 : mk < 20 := by omega
        refine lv_aload_n hx hb dX10_simple_315 rfl (lv_at hl 1 rfl) ?_
        refine lv_aload_n hx hb dX10_simple_316 rfl (lv_at hl 1 rfl) ?_
        refine lv_lload_n hx hb dX10_simple_317 rfl (lv_at hl 3 rfl) ?_
        refine lv_l2i (v := a.toInt32) hx hb dX10_simple_318 rfl ?_
        refine lv_iconst (v := 0) hx hb dX10_simple_319 (by decide) ?_
        have hpre_38 := mvMake (z := 0) (a := a.toInt32) hV hm20 (by omega)
        refine m_calli (m_runV (i := .inl 0) (ci := 8) (As := [.int a.toInt32, .int 0]) (rest := [.ref (L (.inl 0))]) X (k_X10_make Γ l L x a.toInt32 0 mk 0 hV.2.2.2.2.1.1 hm20 rfl (by omega)) v_X10_make ml_X10_308 hw hS rfl rfl rfl rfl hl.1 ⟨Nat.le_of_ble_eq_true rfl, Nat.le_of_ble_eq_true rfl⟩ (Nat.le_of_ble_eq_true rfl) ⟨Nat.le_of_ble_eq_true rfl, Nat.le_of_ble_eq_true rfl⟩ dX10_simple_320) hS (fun r_38 L1 M1 H locs hp_38 hw hS => ?_)
        obtain ⟨er_38, e1, e2⟩ := hp_38
        rw [e1, e2] at hw; clear e1 e2
        subst er_38
        obtain ⟨hV, hq_38, hso⟩ := hpre_38
        dsimp only at hw
        generalize hgm : r_make x mk 0 a.toInt32 = y_38 at hw hV hq_38 hso
        clear hgm
        have hmr := hmr.tr hq_38.1
        have hmo := hmo.tr hq_38.2.1
        have hlo : lo x y_38 f := fun p hp => (hq_38.2.2 p hp).trans (hlo p hp)
        have hV := mvLe (q' := p_repl q.1 (100 + b) 0 8) hV (fun p _ => p_repl0_vle)
        refine lv_i2l (v := (nI mk).toInt64) hx hb dX10_simple_323 rfl ?_
        have hpre_39 := mvPut (v := (nI mk).toInt64) hV hop (by rw [hbi, vc_un (by omega)]; exact Or.inr ⟨mk, by omega, nI_lN (by omega)⟩)
        refine m_callv (m_runV (i := .inl 0) (ci := 8) (As := [.long ((nI mk).toInt64)]) (rest := []) X (k_X10_put Γ l L y_38 ((nI mk).toInt64) f _ hV.1 hV.2.1 hV.2.2.1 hpre_39.1) v_X10_put ml_X10_238 hw hS rfl rfl rfl rfl hl.1 ⟨Nat.le_of_ble_eq_true rfl, Nat.le_of_ble_eq_true rfl⟩ (Nat.le_of_ble_eq_true rfl) ⟨Nat.le_of_ble_eq_true rfl, Nat.le_of_ble_eq_true rfl⟩ dX10_simple_324) hS (fun L1 M1 H locs hp_39 hw hS => ?_)
        obtain ⟨e1, e2⟩ := hp_39
        rw [e1, e2] at hw; clear e1 e2
        obtain ⟨-, hV, hq_39⟩ := hpre_39
        generalize r_put y_38 f (p_repl q.1 (100 + b) 0 8, q.2).2 ((nI mk).toInt64) = y_39 at hw hV hq_39
        have hmr := hmr.tr hq_39.1
        have hmo := hmo.tr hq_39.2.1
        have hlo : lo x y_39 f := fun p hp => (hq_39.2.2 p hp).trans (hlo p hp)
        refine lv_iconst (v := 0) hx hb dX10_simple_327 (by decide) ?_
        exact m_iret X hr hlk hw hS (Nat.zero_le _) (Nat.zero_le _) ⟨y_39, mk + 1, rfl, rfl, hmr, hmo, hV.2.2.2.2.1, Or.inl ⟨rfl, hV⟩⟩ dX10_simple_328
      · skip
        have c_37n : mk = 20 := nneF (a := mk) (b := 20) hV.2.2.2.2.1.1 rfl (by omega) (by omega) c_37
        refine lv_bipush (v := 9) hx hb dX10_simple_312 (by decide) ?_
        exact m_iret X hr hlk hw hS (Nat.zero_le _) (Nat.zero_le _) ⟨x, mk, rfl, rfl, hmr, hmo, hV.2.2.2.2.1, Or.inr ⟨by decide, by decide, hlo⟩⟩ dX10_simple_314
