/-! THE REFERENCE'S MACHINE: things -/
theorem lN_inj {a b : Nat} (ha : a < 1000) (hb : b < 1000) (h : lN a = lN b) : a = b := by
  have := congrArg Int64.toInt h
  rw [lN_toInt (by omega), lN_toInt (by omega)] at this
  omega
theorem lN_ne {a : Nat} (ha : a < 1000) : ¬ lN a = -1 := by
  intro h
  have := congrArg Int64.toInt h
  rw [lN_toInt (by omega)] at this
  have e : (-1 : Int64).toInt = -1 := by decide
  omega
theorem refE {mk c : Nat} {so : Nat → Int32} {v : Int64} (h : VT mk so c v) (hc : vle c 4 = true) (h4 : c ≤ 4) (hn : ¬ v.toInt32 < 0) : ∃ n, n < mk ∧ v = lN n := by
  rcases VT_le hc h4 (by omega) h with e | e
  · rw [e] at hn; exact absurd (by decide) hn
  · exact e
theorem refE2 {mk c : Nat} {so : Nat → Int32} {v : Int64} (h : VT mk so c v) (hc : vle c 4 = true) (h4 : c ≤ 4) (hn : ¬ v < 0) : ∃ n, n < mk ∧ v = lN n := by
  rcases VT_le hc h4 (by omega) h with e | e
  · rw [e] at hn; exact absurd (by decide) hn
  · exact e
theorem so50 {mk : Nat} {so : Nat → Int32} {t : Nat} (hm : mk ≤ 20) (ht : t < mk) (h : VT mk so 2 (lN t)) : so t = 50 := by
  rcases h with e | ⟨n, h1, h2, h3⟩
  · exact absurd e (lN_ne (by omega))
  · rw [lN_inj (by omega) (by omega) h2]; exact h3
theorem soN {mk : Nat} {so : Nat → Int32} {t : Nat} (hm : mk ≤ 20) (ht : t < mk) (h : VT mk so 3 (lN t)) : so t ≠ 50 := by
  rcases h with e | ⟨n, h1, h2, h3⟩
  · exact absurd e (lN_ne (by omega))
  · rw [lN_inj (by omega) (by omega) h2]; exact h3
theorem rowN_c {k : Int32} (h : p_isRowN k = true) : vc k = 3 ∨ k = 4 := by
  unfold p_isRowN at h
  by_cases c : k = 4
  · exact Or.inr c
  · have hr : r_isRow k = true := by simpa [c] using h
    refine Or.inl ?_
    have := thing_in (row_thing hr)
    revert hr
    revert this
    have al : ∀ k ∈ thList, r_isRow k = true → vc k = 3 := by decide +kernel
    exact al k
theorem rowN_el {k : Int32} (h : p_isRowN k = true) (h4 : ¬ k = 4) : vc (10 + k - 20) = 4 := by
  unfold p_isRowN at h
  have hr : r_isRow k = true := by simpa [h4] using h
  have := thing_in (row_thing hr)
  have al : ∀ k ∈ thList, r_isRow k = true → vc (10 + k - 20) = 4 := by decide +kernel
  exact al k this hr
theorem rowN_3 {k : Int32} (h : p_isRowN k = true) : vle (vc k) 3 = true := by
  rcases rowN_c h with e | e
  · rw [e]; decide
  · rw [e]; decide
theorem rowN_4 {k : Int32} (h : p_isRowN k = true) : vle (vc k) 4 = true := vle_tr (rowN_3 h) (by decide)
theorem p16_1 {q : PL} (h : p_top q = 5 ∨ p_isRowN (p_top q) = true) : 1 ≤ q.2 ∧ vle (vc (q.1 (7 + q.2))) 4 = true := by
  unfold p_top at h
  by_cases c : 0 < q.2
  · rw [if_pos c] at h
    refine ⟨c, ?_⟩
    rcases h with e | e
    · rw [e]; decide
    · exact rowN_4 e
  · rw [if_neg c] at h
    exact absurd h (by decide)
theorem mvThing {x : RS} {f mk t j : Nat} {q : PL} {v : Int64} (h : MV x f mk q) (hj : j < 30) (hv : x.2.1 24 t ≠ 50 → VT mk (x.2.1 24) 4 v) : MV (sJ x 27 (30 * t + j) v) f mk q ∧ mq x (sJ x 27 (30 * t + j) v) f mk mk := by
  obtain ⟨h1, h2, h3, h4, h5, h6⟩ := h
  have e27 : (sJ x 27 (30 * t + j) v).2.2 27 = vp_updL (x.2.2 27) (30 * t + j) v := sJ_k x 27 _ v
  have e18 : (sJ x 27 (30 * t + j) v).2.2 18 = x.2.2 18 := sJ_o (by decide)
  refine ⟨⟨h1, h2, h3, h4, ⟨h5.1, h5.2.1, fun u hu => ?_⟩, fun p hp => by rw [e18]; exact h6 p hp⟩, ⟨⟨fun _ _ _ _ _ => rfl, fun _ _ => rfl, fun k a b => sJ_o b, fun _ _ => rfl, fun j hj => by rw [e18]⟩, ⟨Nat.le_refl _, fun _ _ => rfl⟩, fun p hp => by rw [e18]⟩⟩
  obtain ⟨z, z1, z2, z3⟩ := h5.2.2 u hu
  refine ⟨z, z1, z2, fun hs i hi => ?_⟩
  rw [e27]
  by_cases w : 30 * u + i = 30 * t + j
  · rw [w, updL_s]
    have : u = t := by omega
    subst this
    exact hv hs
  · rw [updL_o w]
    exact z3 hs i hi
theorem mvField {x : RS} {f mk t : Nat} {q : PL} {v : Int32} (h : MV x f mk q) : MV (sA x 26 t v) f mk q ∧ mq x (sA x 26 t v) f mk mk := by
  obtain ⟨h1, h2, h3, h4, h5, h6⟩ := h
  have e19 : (sA x 26 t v).2.1 19 = x.2.1 19 := sA_o (by decide)
  have e24 : (sA x 26 t v).2.1 24 = x.2.1 24 := sA_o (by decide)
  have e25 : (sA x 26 t v).2.1 25 = x.2.1 25 := sA_o (by decide)
  refine ⟨⟨h1, h2, by rw [e19]; exact h3, h4, ?_, fun p hp => by rw [e24]; exact h6 p hp⟩, ⟨⟨fun k _ _ _ d => sA_o d, fun _ _ => rfl, fun _ _ _ => rfl, fun j _ => by rw [e19], fun _ _ => rfl⟩, ⟨Nat.le_refl _, fun u _ => by rw [e24]⟩, fun _ _ => rfl⟩⟩
  unfold TH at h5 ⊢
  rw [e24, e25]
  exact h5
theorem mvCast {x : RS} {f mk : Nat} {q w z : PL} {k g : Int32} (h : MV x f mk q) (hp : p_pop q k = some w) (hq : p_push w g = some z) (hv : VT mk (x.2.1 24) (vc g) (x.2.2 18 (16 * f + 7 + q.2))) : MV x f mk z := by
  obtain ⟨a, b, rfl⟩ := popE hp
  obtain ⟨c, rfl⟩ := pushE hq
  obtain ⟨h1, h2, h3, h4, h5, h6⟩ := h
  have e : q.2 - 1 + 1 = q.2 := by omega
  refine ⟨h1, h2, ?_, ?_, h5, fun p hp => ?_⟩
  · show x.2.1 19 f = nI (q.2 - 1 + 1)
    rw [e]; exact h3
  · show q.2 - 1 + 1 ≤ 8
    omega
  · have hp : p < 8 + (q.2 - 1 + 1) := hp
    show VT mk _ (vc (upd q.1 (8 + (q.2 - 1)) g p)) _
    by_cases w : p = 8 + (q.2 - 1)
    · rw [w, upd_same, show 16 * f + (8 + (q.2 - 1)) = 16 * f + 7 + q.2 by omega]
      exact hv
    · rw [upd_oth w]
      exact h6 p (by omega)
theorem mvTop7 {x : RS} {f mk : Nat} {q w : PL} {k : Int32} (h : MV x f mk q) (hp : p_pop q k = some w) : VT mk (x.2.1 24) (vc k) (x.2.2 18 (16 * f + 7 + q.2)) := by
  obtain ⟨a, b, -, -⟩ := mvTake h hp
  rw [show 16 * f + 7 + q.2 = 16 * f + 8 + (q.2 - 1) by omega]
  exact b
theorem ob_4 {a : Int64} (h : r_isIn a 0 7 = true) : vc (10 + a.toInt32) = 4 := by
  obtain ⟨u, -, hu2, rfl⟩ := isIn_natL (l := 0) (h := 7) (by decide) (by decide) (by decide) h
  rw [lN_i]
  have : u = 0 ∨ u = 1 ∨ u = 2 ∨ u = 3 ∨ u = 4 ∨ u = 5 ∨ u = 6 ∨ u = 7 := by omega
  rcases this with rfl | rfl | rfl | rfl | rfl | rfl | rfl | rfl <;> decide
theorem row_3 {a : Int64} (h : r_isIn a 1 5 = true) : vc (20 + a.toInt32) = 3 ∧ ¬ 20 + a.toInt32 = 50 := by
  obtain ⟨u, hu1, hu2, rfl⟩ := isIn_natL (l := 1) (h := 5) (by decide) (by decide) (by decide) h
  rw [lN_i]
  have : u = 1 ∨ u = 2 ∨ u = 3 ∨ u = 4 ∨ u = 5 := by omega
  rcases this with rfl | rfl | rfl | rfl | rfl <;> decide
theorem row_ne {mk : Nat} {so : Nat → Int32} {k : Int32} {v w : Int64} (h : VT mk so (vc k) v) (e : k = 4) (hw : v = w) : w = -1 := by
  rw [e, vc_4] at h
  rw [← hw]
  exact h
theorem v_X10_ofThings : mVm yX10_ofThings cX10_ofThings 9 (some .int) 2 := ⟨cd_X10_ofThings, im_X10_ofThings, se_X10_ofThings, ini_X10, by decide, by decide, by decide +kernel⟩
set_option maxHeartbeats 4000000 in
set_option maxRecDepth 100000 in
theorem k_X10_ofThings (Γ : mG) (l : Launch) (L : mI → Nat) (x : RS) (o : Int32) (a : Int64) (f mk ii k om : Nat) (pm : Nat → Nat) (ops : Nat → Int32) (as : Nat → Int64) (b : Int32) (q z : PL) (hbi : b = nI ii) (hii : ii < 40) (hom : om ≤ 40) (hV : MV x f mk q) (hop : p_op ops as k om pm b o a q = some z) (ho14 : 14 ≤ o.toInt) (ho : o.toInt < 26) : mMet Γ l yX10_ofThings cX10_ofThings 9 (some .int) { frames := 3, cells := 0, slots := 0, locals := 64 } [.ref (L (.inl 0)), .int o, .long a] L (rM Γ L x) (mQi Γ (fun r L1 M1 => ∃ (y : RS) (mk1 : Nat), L1 = L ∧ M1 = rM Γ L y ∧ mr x y f ∧ mo x y mk mk1 ∧ TH y mk1 ∧ ((r = 0 ∧ MV y f mk1 z) ∨ (1 ≤ r.toInt ∧ r.toInt ≤ 9 ∧ lo x y f)))) := by
  refine m_start (by decide) (Nat.le_of_ble_eq_true rfl) ?_
  intro p e s m args below meth c A ls X hr hlk hnm hw hS hl
  have hx := X.1.1
  have hb := X.1.2.1
  have hf0 : x.1 22 = nI f := hV.1
  have hf8 := hV.2.1
  have hmk20 := hV.2.2.2.2.1.2.1
  have hq8 := hV.2.2.2.1
  have hmr : mr x x f := mr.rf
  have hmo : mo x x mk mk := mo.rf
  have hlo : lo x x f := fun _ _ => rfl
  have hl : lv_has ls 9 [(0, .ref (L (.inl 0))), (1, .int o), (2, .long a)] := hl
  refine lv_iconst (v := 0) hx hb dX10_ofThings_0 (by decide) ?_
  refine lv_istore (lv' := [(4, .int 0), (0, .ref (L (.inl 0))), (1, .int o), (2, .long a)]) hx hb dX10_ofThings_1 hl (by decide) rfl (fun ls hl => ?_)
  refine lv_iconst (v := 0) hx hb dX10_ofThings_3 (by decide) ?_
  refine lv_istore (lv' := [(5, .int 0), (4, .int 0), (0, .ref (L (.inl 0))), (1, .int o), (2, .long a)]) hx hb dX10_ofThings_4 hl (by decide) rfl (fun ls hl => ?_)
  refine lv_iload_n hx hb dX10_ofThings_6 rfl (lv_at hl 3 rfl) ?_
  by_cases c_1 : o.toInt < 14 ∨ 24 < o.toInt
  · refine lv_tableOut (tgt := 447) hx hb dX10_ofThings_7 c_1 (by decide) ?_
    have hoe : o = 25 := Int32.toInt_inj.mp (show o.toInt = 25 by omega)
    rw [hoe, op_25] at hop
    obtain ⟨w1, h1, hop⟩ := bindE hop
    have hcl := (show vle (vc 11) 4 = true by decide)
    refine lv_aload_n hx hb dX10_ofThings_447 rfl (lv_at hl 2 rfl) ?_
    have hpre_2 := mvTake hV h1
    refine m_calll (m_runV (i := .inl 0) (ci := 8) (As := []) (rest := []) X (k_X10_take Γ l L x f _ hV.1 hV.2.1 hV.2.2.1 hpre_2.1 hV.2.2.2.1) v_X10_take ml_X10_293 hw hS rfl rfl rfl rfl hl.1 ⟨Nat.le_of_ble_eq_true rfl, Nat.le_of_ble_eq_true rfl⟩ (Nat.le_of_ble_eq_true rfl) ⟨Nat.le_of_ble_eq_true rfl, Nat.le_of_ble_eq_true rfl⟩ dX10_ofThings_448) hS (fun r_2 L1 M1 H locs hp_2 hw hS => ?_)
    obtain ⟨er_2, e1, e2⟩ := hp_2
    rw [e1, e2] at hw; clear e1 e2
    obtain ⟨-, hv_2, hV, hq_2⟩ := hpre_2
    rw [← er_2] at hv_2
    clear er_2
    generalize sA x 19 f (nI (q.2 - 1)) = y_2 at hw hV hq_2
    have hmr := hmr.tr hq_2.1
    have hmo := hmo.tr hq_2.2.1
    have hlo : lo x y_2 f := fun p hp => (hq_2.2.2 p hp).trans (hlo p hp)
    have hv_2 := VT_mo hq_2.2.1.1 hq_2.2.1.2 hv_2
    refine lv_l2i (v := r_2.toInt32) hx hb dX10_ofThings_451 rfl ?_
    refine lv_istore (lv' := [(4, .int r_2.toInt32), (5, .int 0), (0, .ref (L (.inl 0))), (1, .int o), (2, .long a)]) hx hb dX10_ofThings_452 hl (by decide) rfl (fun ls hl => ?_)
    refine lv_iload hx hb dX10_ofThings_454 (lv_at hl 0 rfl) ?_
    refine lv_if_ge (tgt := 461) hx hb dX10_ofThings_456 (by decide) (fun c_3 => ?_) (fun c_3 => ?_)
    · skip
      obtain ⟨tn, htn, htv⟩ := refE hv_2 hcl (vc_le _) (Int32.not_lt.mpr c_3)
      obtain ⟨zs, hz30, hzs, hth⟩ := hV.2.2.2.2.1.2.2 tn htn
      refine lv_aload_n hx hb dX10_ofThings_461 rfl (lv_at hl 2 rfl) ?_
      refine lv_iload_n hx hb dX10_ofThings_462 rfl (lv_at hl 3 rfl) ?_
      refine lv_bipush (v := 23) hx hb dX10_ofThings_463 (by decide) ?_
      refine lv_icmp_ne (tgt := 479) hx hb dX10_ofThings_465 (by decide) (fun _ => ?_) (fun c => absurd (hoe.symm.trans c) (by decide))
      refine lv_aload_n hx hb dX10_ofThings_479 rfl (lv_at hl 2 rfl) ?_
      refine lv_iload hx hb dX10_ofThings_480 (lv_at hl 0 rfl) ?_
      refine m_calli (m_runV (i := .inl 0) (ci := 8) (As := [.int r_2.toInt32]) (rest := [.ref (L (.inl 0))]) X (k_X10_worth Γ l L y_2 r_2.toInt32 tn ((congrArg Int64.toInt32 htv).trans (lN_i tn)) (by omega)) v_X10_worth ml_X10_314 hw hS rfl rfl rfl rfl hl.1 ⟨Nat.le_of_ble_eq_true rfl, Nat.le_of_ble_eq_true rfl⟩ (Nat.le_of_ble_eq_true rfl) ⟨Nat.le_of_ble_eq_true rfl, Nat.le_of_ble_eq_true rfl⟩ dX10_ofThings_482) hS (fun r_4 L1 M1 H locs hp_4 hw hS => ?_)
      obtain ⟨er_4, e1, e2⟩ := hp_4
      rw [e1, e2] at hw; clear e1 e2
      refine lv_i2l (v := r_4.toInt64) hx hb dX10_ofThings_485 rfl ?_
      have hpre_5 := mvPut (v := r_4.toInt64) hV hop (trivial)
      refine m_callv (m_runV (i := .inl 0) (ci := 8) (As := [.long r_4.toInt64]) (rest := []) X (k_X10_put Γ l L y_2 r_4.toInt64 f _ hV.1 hV.2.1 hV.2.2.1 hpre_5.1) v_X10_put ml_X10_238 hw hS rfl rfl rfl rfl hl.1 ⟨Nat.le_of_ble_eq_true rfl, Nat.le_of_ble_eq_true rfl⟩ (Nat.le_of_ble_eq_true rfl) ⟨Nat.le_of_ble_eq_true rfl, Nat.le_of_ble_eq_true rfl⟩ dX10_ofThings_486) hS (fun L1 M1 H locs hp_5 hw hS => ?_)
      obtain ⟨e1, e2⟩ := hp_5
      rw [e1, e2] at hw; clear e1 e2
      obtain ⟨-, hV, hq_5⟩ := hpre_5
      generalize r_put y_2 f w1.2 r_4.toInt64 = y_5 at hw hV hq_5
      have hmr := hmr.tr hq_5.1
      have hmo := hmo.tr hq_5.2.1
      have hlo : lo x y_5 f := fun p hp => (hq_5.2.2 p hp).trans (hlo p hp)
      have hv_2 := VT_mo hq_5.2.1.1 hq_5.2.1.2 hv_2
      refine lv_iconst (v := 0) hx hb dX10_ofThings_489 (by decide) ?_
      exact m_iret X hr hlk hw hS (Nat.zero_le _) (Nat.zero_le _) ⟨y_5, mk, rfl, rfl, hmr, hmo, hV.2.2.2.2.1, Or.inl ⟨rfl, hV⟩⟩ dX10_ofThings_490
    · skip
      refine lv_iconst (v := 1) hx hb dX10_ofThings_459 (by decide) ?_
      exact m_iret X hr hlk hw hS (Nat.zero_le _) (Nat.zero_le _) ⟨y_2, mk, rfl, rfl, hmr, hmo, hV.2.2.2.2.1, Or.inr ⟨by decide, by decide, hlo⟩⟩ dX10_ofThings_460
  · have c_1b : o.toInt = 14 ∨ o.toInt = 15 ∨ o.toInt = 16 ∨ o.toInt = 17 ∨ o.toInt = 18 ∨ o.toInt = 19 ∨ o.toInt = 20 ∨ o.toInt = 21 ∨ o.toInt = 22 ∨ o.toInt = 23 ∨ o.toInt = 24 := by omega
    rcases c_1b with c_1v | c_1v | c_1v | c_1v | c_1v | c_1v | c_1v | c_1v | c_1v | c_1v | c_1v
    · have hoe : o = 14 := Int32.toInt_inj.mp c_1v
      refine lv_tableIn (off := 57) (tgt := 64) hx hb dX10_ofThings_7 (by omega) (by omega) (by rw [c_1v]; rfl) (by decide) ?_
      rw [hoe, op_14] at hop
      obtain ⟨w1, h1, hop⟩ := bindE hop
      refine lv_aload_n hx hb dX10_ofThings_64 rfl (lv_at hl 2 rfl) ?_
      have hpre_6 := mvTake hV h1
      refine m_calll (m_runV (i := .inl 0) (ci := 8) (As := []) (rest := []) X (k_X10_take Γ l L x f _ hV.1 hV.2.1 hV.2.2.1 hpre_6.1 hV.2.2.2.1) v_X10_take ml_X10_293 hw hS rfl rfl rfl rfl hl.1 ⟨Nat.le_of_ble_eq_true rfl, Nat.le_of_ble_eq_true rfl⟩ (Nat.le_of_ble_eq_true rfl) ⟨Nat.le_of_ble_eq_true rfl, Nat.le_of_ble_eq_true rfl⟩ dX10_ofThings_65) hS (fun r_6 L1 M1 H locs hp_6 hw hS => ?_)
      obtain ⟨er_6, e1, e2⟩ := hp_6
      rw [e1, e2] at hw; clear e1 e2
      obtain ⟨-, hv_6, hV, hq_6⟩ := hpre_6
      rw [← er_6] at hv_6
      clear er_6
      generalize sA x 19 f (nI (q.2 - 1)) = y_6 at hw hV hq_6
      have hmr := hmr.tr hq_6.1
      have hmo := hmo.tr hq_6.2.1
      have hlo : lo x y_6 f := fun p hp => (hq_6.2.2 p hp).trans (hlo p hp)
      have hv_6 := VT_mo hq_6.2.1.1 hq_6.2.1.2 hv_6
      refine lv_l2i (v := r_6.toInt32) hx hb dX10_ofThings_68 rfl ?_
      refine lv_istore (lv' := [(6, .int r_6.toInt32), (5, .int 0), (4, .int 0), (0, .ref (L (.inl 0))), (1, .int o), (2, .long a)]) hx hb dX10_ofThings_69 hl (by decide) rfl (fun ls hl => ?_)
      refine lv_iload hx hb dX10_ofThings_71 (lv_at hl 0 rfl) ?_
      refine lv_if_ge (tgt := 78) hx hb dX10_ofThings_73 (by decide) (fun c_7 => ?_) (fun c_7 => ?_)
      · skip
        obtain ⟨zn, hzn, hznb⟩ : ∃ zn : Nat, r_6.toInt32 = nI zn ∧ zn < 2 ^ 31 := ⟨_, nat_of_toInt (by have e9 := Int32.le_iff_toInt_le.mp c_7; exact e9)⟩
        refine lv_iload hx hb dX10_ofThings_78 (lv_at hl 0 rfl) ?_
        refine lv_bipush (v := 30) hx hb dX10_ofThings_80 (by decide) ?_
        refine lv_icmp_gt (tgt := 94) hx hb dX10_ofThings_82 (by decide) (fun c_8 => ?_) (fun c_8 => ?_)
        · skip
          have c_8n : zn > 30 := ngtT (a := zn) (b := 30) hzn rfl (by omega) (by omega) c_8
          have c_8m : ¬ zn ≤ 30 := by omega
          refine lv_bipush (v := 9) hx hb dX10_ofThings_94 (by decide) ?_
          exact m_iret X hr hlk hw hS (Nat.zero_le _) (Nat.zero_le _) ⟨y_6, mk, rfl, rfl, hmr, hmo, hV.2.2.2.2.1, Or.inr ⟨by decide, by decide, hlo⟩⟩ dX10_ofThings_96
        · skip
          have c_8n : ¬ zn > 30 := ngtF (a := zn) (b := 30) hzn rfl (by omega) (by omega) c_8
          have c_8m : zn ≤ 30 := by omega
          refine lv_aload_n hx hb dX10_ofThings_85 rfl (lv_at hl 3 rfl) ?_
          refine r_get23 X hw dX10_ofThings_86 ?_
          refine lv_bipush (v := 20) hx hb dX10_ofThings_89 (by decide) ?_
          refine lv_icmp_ne (tgt := 97) hx hb dX10_ofThings_91 (by decide) (fun c_9 => ?_) (fun c_9 => ?_)
          · skip
            have c_9n : ¬ mk = 20 := nneT (a := mk) (b := 20) hV.2.2.2.2.1.1 rfl (by omega) (by omega) c_9
            have hm20 : mk < 20 := by omega
            refine lv_aload_n hx hb dX10_ofThings_97 rfl (lv_at hl 3 rfl) ?_
            refine lv_aload_n hx hb dX10_ofThings_98 rfl (lv_at hl 3 rfl) ?_
            refine lv_iload_n hx hb dX10_ofThings_99 rfl (lv_at hl 4 rfl) ?_
            refine lv_bipush (v := 14) hx hb dX10_ofThings_100 (by decide) ?_
            refine lv_icmp_ne (tgt := 110) hx hb dX10_ofThings_102 (by decide) (fun c => absurd hoe c) (fun _ => ?_)
            refine lv_bipush (v := 50) hx hb dX10_ofThings_105 (by decide) ?_
            refine lv_goto (tgt := 115) hx hb dX10_ofThings_107 (by decide) ?_
            refine lv_iload hx hb dX10_ofThings_115 (lv_at hl 0 rfl) ?_
            have hpre_10 := mvMake (z := zn) (a := 50) hV hm20 (by omega)
            refine m_calli (m_runV (i := .inl 0) (ci := 8) (As := [.int 50, .int r_6.toInt32]) (rest := [.ref (L (.inl 0))]) X (k_X10_make Γ l L y_6 50 r_6.toInt32 mk zn hV.2.2.2.2.1.1 hm20 hzn (by omega)) v_X10_make ml_X10_308 hw hS rfl rfl rfl rfl hl.1 ⟨Nat.le_of_ble_eq_true rfl, Nat.le_of_ble_eq_true rfl⟩ (Nat.le_of_ble_eq_true rfl) ⟨Nat.le_of_ble_eq_true rfl, Nat.le_of_ble_eq_true rfl⟩ dX10_ofThings_117) hS (fun r_10 L1 M1 H locs hp_10 hw hS => ?_)
            obtain ⟨er_10, e1, e2⟩ := hp_10
            rw [e1, e2] at hw; clear e1 e2
            subst er_10
            obtain ⟨hV, hq_10, hso⟩ := hpre_10
            dsimp only at hw
            generalize hgm : r_make y_6 mk zn 50 = y_10 at hw hV hq_10 hso
            clear hgm
            have hmr := hmr.tr hq_10.1
            have hmo := hmo.tr hq_10.2.1
            have hlo : lo x y_10 f := fun p hp => (hq_10.2.2 p hp).trans (hlo p hp)
            have hv_6 := VT_mo hq_10.2.1.1 hq_10.2.1.2 hv_6
            refine lv_i2l (v := (nI mk).toInt64) hx hb dX10_ofThings_120 rfl ?_
            have hpre_11 := mvPut (v := (nI mk).toInt64) hV hop (show VT _ _ 2 _ from Or.inr ⟨mk, by omega, nI_lN (by omega), hso⟩)
            refine m_callv (m_runV (i := .inl 0) (ci := 8) (As := [.long ((nI mk).toInt64)]) (rest := []) X (k_X10_put Γ l L y_10 ((nI mk).toInt64) f _ hV.1 hV.2.1 hV.2.2.1 hpre_11.1) v_X10_put ml_X10_238 hw hS rfl rfl rfl rfl hl.1 ⟨Nat.le_of_ble_eq_true rfl, Nat.le_of_ble_eq_true rfl⟩ (Nat.le_of_ble_eq_true rfl) ⟨Nat.le_of_ble_eq_true rfl, Nat.le_of_ble_eq_true rfl⟩ dX10_ofThings_121) hS (fun L1 M1 H locs hp_11 hw hS => ?_)
            obtain ⟨e1, e2⟩ := hp_11
            rw [e1, e2] at hw; clear e1 e2
            obtain ⟨-, hV, hq_11⟩ := hpre_11
            generalize r_put y_10 f w1.2 ((nI mk).toInt64) = y_11 at hw hV hq_11
            have hmr := hmr.tr hq_11.1
            have hmo := hmo.tr hq_11.2.1
            have hlo : lo x y_11 f := fun p hp => (hq_11.2.2 p hp).trans (hlo p hp)
            have hv_6 := VT_mo hq_11.2.1.1 hq_11.2.1.2 hv_6
            refine lv_iconst (v := 0) hx hb dX10_ofThings_124 (by decide) ?_
            exact m_iret X hr hlk hw hS (Nat.zero_le _) (Nat.zero_le _) ⟨y_11, mk + 1, rfl, rfl, hmr, hmo, hV.2.2.2.2.1, Or.inl ⟨rfl, hV⟩⟩ dX10_ofThings_125
          · skip
            have c_9n : mk = 20 := nneF (a := mk) (b := 20) hV.2.2.2.2.1.1 rfl (by omega) (by omega) c_9
            refine lv_bipush (v := 9) hx hb dX10_ofThings_94 (by decide) ?_
            exact m_iret X hr hlk hw hS (Nat.zero_le _) (Nat.zero_le _) ⟨y_6, mk, rfl, rfl, hmr, hmo, hV.2.2.2.2.1, Or.inr ⟨by decide, by decide, hlo⟩⟩ dX10_ofThings_96
      · skip
        refine lv_iconst (v := 5) hx hb dX10_ofThings_76 (by decide) ?_
        exact m_iret X hr hlk hw hS (Nat.zero_le _) (Nat.zero_le _) ⟨y_6, mk, rfl, rfl, hmr, hmo, hV.2.2.2.2.1, Or.inr ⟨by decide, by decide, hlo⟩⟩ dX10_ofThings_77
    · have hoe : o = 15 := Int32.toInt_inj.mp c_1v
      refine lv_tableIn (off := 57) (tgt := 64) hx hb dX10_ofThings_7 (by omega) (by omega) (by rw [c_1v]; rfl) (by decide) ?_
      rw [hoe, op_15] at hop
      obtain ⟨hin, hop⟩ := iteE hop
      obtain ⟨w1, h1, hop⟩ := bindE hop
      refine lv_aload_n hx hb dX10_ofThings_64 rfl (lv_at hl 2 rfl) ?_
      have hpre_12 := mvTake hV h1
      refine m_calll (m_runV (i := .inl 0) (ci := 8) (As := []) (rest := []) X (k_X10_take Γ l L x f _ hV.1 hV.2.1 hV.2.2.1 hpre_12.1 hV.2.2.2.1) v_X10_take ml_X10_293 hw hS rfl rfl rfl rfl hl.1 ⟨Nat.le_of_ble_eq_true rfl, Nat.le_of_ble_eq_true rfl⟩ (Nat.le_of_ble_eq_true rfl) ⟨Nat.le_of_ble_eq_true rfl, Nat.le_of_ble_eq_true rfl⟩ dX10_ofThings_65) hS (fun r_12 L1 M1 H locs hp_12 hw hS => ?_)
      obtain ⟨er_12, e1, e2⟩ := hp_12
      rw [e1, e2] at hw; clear e1 e2
      obtain ⟨-, hv_12, hV, hq_12⟩ := hpre_12
      rw [← er_12] at hv_12
      clear er_12
      generalize sA x 19 f (nI (q.2 - 1)) = y_12 at hw hV hq_12
      have hmr := hmr.tr hq_12.1
      have hmo := hmo.tr hq_12.2.1
      have hlo : lo x y_12 f := fun p hp => (hq_12.2.2 p hp).trans (hlo p hp)
      have hv_12 := VT_mo hq_12.2.1.1 hq_12.2.1.2 hv_12
      refine lv_l2i (v := r_12.toInt32) hx hb dX10_ofThings_68 rfl ?_
      refine lv_istore (lv' := [(6, .int r_12.toInt32), (5, .int 0), (4, .int 0), (0, .ref (L (.inl 0))), (1, .int o), (2, .long a)]) hx hb dX10_ofThings_69 hl (by decide) rfl (fun ls hl => ?_)
      refine lv_iload hx hb dX10_ofThings_71 (lv_at hl 0 rfl) ?_
      refine lv_if_ge (tgt := 78) hx hb dX10_ofThings_73 (by decide) (fun c_13 => ?_) (fun c_13 => ?_)
      · skip
        obtain ⟨zn, hzn, hznb⟩ : ∃ zn : Nat, r_12.toInt32 = nI zn ∧ zn < 2 ^ 31 := ⟨_, nat_of_toInt (by have e9 := Int32.le_iff_toInt_le.mp c_13; exact e9)⟩
        refine lv_iload hx hb dX10_ofThings_78 (lv_at hl 0 rfl) ?_
        refine lv_bipush (v := 30) hx hb dX10_ofThings_80 (by decide) ?_
        refine lv_icmp_gt (tgt := 94) hx hb dX10_ofThings_82 (by decide) (fun c_14 => ?_) (fun c_14 => ?_)
        · skip
          have c_14n : zn > 30 := ngtT (a := zn) (b := 30) hzn rfl (by omega) (by omega) c_14
          have c_14m : ¬ zn ≤ 30 := by omega
          refine lv_bipush (v := 9) hx hb dX10_ofThings_94 (by decide) ?_
          exact m_iret X hr hlk hw hS (Nat.zero_le _) (Nat.zero_le _) ⟨y_12, mk, rfl, rfl, hmr, hmo, hV.2.2.2.2.1, Or.inr ⟨by decide, by decide, hlo⟩⟩ dX10_ofThings_96
        · skip
          have c_14n : ¬ zn > 30 := ngtF (a := zn) (b := 30) hzn rfl (by omega) (by omega) c_14
          have c_14m : zn ≤ 30 := by omega
          refine lv_aload_n hx hb dX10_ofThings_85 rfl (lv_at hl 3 rfl) ?_
          refine r_get23 X hw dX10_ofThings_86 ?_
          refine lv_bipush (v := 20) hx hb dX10_ofThings_89 (by decide) ?_
          refine lv_icmp_ne (tgt := 97) hx hb dX10_ofThings_91 (by decide) (fun c_15 => ?_) (fun c_15 => ?_)
          · skip
            have c_15n : ¬ mk = 20 := nneT (a := mk) (b := 20) hV.2.2.2.2.1.1 rfl (by omega) (by omega) c_15
            have hm20 : mk < 20 := by omega
            refine lv_aload_n hx hb dX10_ofThings_97 rfl (lv_at hl 3 rfl) ?_
            refine lv_aload_n hx hb dX10_ofThings_98 rfl (lv_at hl 3 rfl) ?_
            refine lv_iload_n hx hb dX10_ofThings_99 rfl (lv_at hl 4 rfl) ?_
            refine lv_bipush (v := 14) hx hb dX10_ofThings_100 (by decide) ?_
            refine lv_icmp_ne (tgt := 110) hx hb dX10_ofThings_102 (by decide) (fun _ => ?_) (fun c => absurd (hoe.symm.trans c) (by decide))
            refine lv_bipush (v := 20) hx hb dX10_ofThings_110 (by decide) ?_
            refine lv_lload_n hx hb dX10_ofThings_112 rfl (lv_at hl 5 rfl) ?_
            refine lv_l2i (v := a.toInt32) hx hb dX10_ofThings_113 rfl ?_
            refine lv_iadd hx hb dX10_ofThings_114 ?_
            refine lv_iload hx hb dX10_ofThings_115 (lv_at hl 0 rfl) ?_
            have hpre_16 := mvMake (z := zn) (a := 20 + a.toInt32) hV hm20 (by omega)
            refine m_calli (m_runV (i := .inl 0) (ci := 8) (As := [.int (20 + a.toInt32), .int r_12.toInt32]) (rest := [.ref (L (.inl 0))]) X (k_X10_make Γ l L y_12 (20 + a.toInt32) r_12.toInt32 mk zn hV.2.2.2.2.1.1 hm20 hzn (by omega)) v_X10_make ml_X10_308 hw hS rfl rfl rfl rfl hl.1 ⟨Nat.le_of_ble_eq_true rfl, Nat.le_of_ble_eq_true rfl⟩ (Nat.le_of_ble_eq_true rfl) ⟨Nat.le_of_ble_eq_true rfl, Nat.le_of_ble_eq_true rfl⟩ dX10_ofThings_117) hS (fun r_16 L1 M1 H locs hp_16 hw hS => ?_)
            obtain ⟨er_16, e1, e2⟩ := hp_16
            rw [e1, e2] at hw; clear e1 e2
            subst er_16
            obtain ⟨hV, hq_16, hso⟩ := hpre_16
            dsimp only at hw
            generalize hgm : r_make y_12 mk zn (20 + a.toInt32) = y_16 at hw hV hq_16 hso
            clear hgm
            have hmr := hmr.tr hq_16.1
            have hmo := hmo.tr hq_16.2.1
            have hlo : lo x y_16 f := fun p hp => (hq_16.2.2 p hp).trans (hlo p hp)
            have hv_12 := VT_mo hq_16.2.1.1 hq_16.2.1.2 hv_12
            refine lv_i2l (v := (nI mk).toInt64) hx hb dX10_ofThings_120 rfl ?_
            have hpre_17 := mvPut (v := (nI mk).toInt64) hV hop (by rw [(row_3 hin).1]; exact Or.inr ⟨mk, by omega, nI_lN (by omega), by rw [hso]; exact (row_3 hin).2⟩)
            refine m_callv (m_runV (i := .inl 0) (ci := 8) (As := [.long ((nI mk).toInt64)]) (rest := []) X (k_X10_put Γ l L y_16 ((nI mk).toInt64) f _ hV.1 hV.2.1 hV.2.2.1 hpre_17.1) v_X10_put ml_X10_238 hw hS rfl rfl rfl rfl hl.1 ⟨Nat.le_of_ble_eq_true rfl, Nat.le_of_ble_eq_true rfl⟩ (Nat.le_of_ble_eq_true rfl) ⟨Nat.le_of_ble_eq_true rfl, Nat.le_of_ble_eq_true rfl⟩ dX10_ofThings_121) hS (fun L1 M1 H locs hp_17 hw hS => ?_)
            obtain ⟨e1, e2⟩ := hp_17
            rw [e1, e2] at hw; clear e1 e2
            obtain ⟨-, hV, hq_17⟩ := hpre_17
            generalize r_put y_16 f w1.2 ((nI mk).toInt64) = y_17 at hw hV hq_17
            have hmr := hmr.tr hq_17.1
            have hmo := hmo.tr hq_17.2.1
            have hlo : lo x y_17 f := fun p hp => (hq_17.2.2 p hp).trans (hlo p hp)
            have hv_12 := VT_mo hq_17.2.1.1 hq_17.2.1.2 hv_12
            refine lv_iconst (v := 0) hx hb dX10_ofThings_124 (by decide) ?_
            exact m_iret X hr hlk hw hS (Nat.zero_le _) (Nat.zero_le _) ⟨y_17, mk + 1, rfl, rfl, hmr, hmo, hV.2.2.2.2.1, Or.inl ⟨rfl, hV⟩⟩ dX10_ofThings_125
          · skip
            have c_15n : mk = 20 := nneF (a := mk) (b := 20) hV.2.2.2.2.1.1 rfl (by omega) (by omega) c_15
            refine lv_bipush (v := 9) hx hb dX10_ofThings_94 (by decide) ?_
            exact m_iret X hr hlk hw hS (Nat.zero_le _) (Nat.zero_le _) ⟨y_12, mk, rfl, rfl, hmr, hmo, hV.2.2.2.2.1, Or.inr ⟨by decide, by decide, hlo⟩⟩ dX10_ofThings_96
      · skip
        refine lv_iconst (v := 5) hx hb dX10_ofThings_76 (by decide) ?_
        exact m_iret X hr hlk hw hS (Nat.zero_le _) (Nat.zero_le _) ⟨y_12, mk, rfl, rfl, hmr, hmo, hV.2.2.2.2.1, Or.inr ⟨by decide, by decide, hlo⟩⟩ dX10_ofThings_77
    · have hoe : o = 16 := Int32.toInt_inj.mp c_1v
      refine lv_tableIn (off := 119) (tgt := 126) hx hb dX10_ofThings_7 (by omega) (by omega) (by rw [c_1v]; rfl) (by decide) ?_
      rw [hoe, op_16] at hop
      obtain ⟨hin, hop⟩ := iteE hop
      obtain ⟨h1q, hcl⟩ := p16_1 hin
      refine lv_aload_n hx hb dX10_ofThings_126 rfl (lv_at hl 2 rfl) ?_
      have hpre_18 := And.intro h1q (And.intro (mvTop hV h1q) (mvDrop (e := 1) hV h1q))
      refine m_calll (m_runV (i := .inl 0) (ci := 8) (As := []) (rest := []) X (k_X10_take Γ l L x f _ hV.1 hV.2.1 hV.2.2.1 hpre_18.1 hV.2.2.2.1) v_X10_take ml_X10_293 hw hS rfl rfl rfl rfl hl.1 ⟨Nat.le_of_ble_eq_true rfl, Nat.le_of_ble_eq_true rfl⟩ (Nat.le_of_ble_eq_true rfl) ⟨Nat.le_of_ble_eq_true rfl, Nat.le_of_ble_eq_true rfl⟩ dX10_ofThings_127) hS (fun r_18 L1 M1 H locs hp_18 hw hS => ?_)
      obtain ⟨er_18, e1, e2⟩ := hp_18
      rw [e1, e2] at hw; clear e1 e2
      obtain ⟨-, hv_18, hV, hq_18⟩ := hpre_18
      rw [← er_18] at hv_18
      clear er_18
      generalize sA x 19 f (nI (q.2 - 1)) = y_18 at hw hV hq_18
      have hmr := hmr.tr hq_18.1
      have hmo := hmo.tr hq_18.2.1
      have hlo : lo x y_18 f := fun p hp => (hq_18.2.2 p hp).trans (hlo p hp)
      have hv_18 := VT_mo hq_18.2.1.1 hq_18.2.1.2 hv_18
      refine lv_l2i (v := r_18.toInt32) hx hb dX10_ofThings_130 rfl ?_
      refine lv_istore (lv' := [(4, .int r_18.toInt32), (5, .int 0), (0, .ref (L (.inl 0))), (1, .int o), (2, .long a)]) hx hb dX10_ofThings_131 hl (by decide) rfl (fun ls hl => ?_)
      refine lv_iload hx hb dX10_ofThings_133 (lv_at hl 0 rfl) ?_
      refine lv_if_ge (tgt := 140) hx hb dX10_ofThings_135 (by decide) (fun c_19 => ?_) (fun c_19 => ?_)
      · skip
        obtain ⟨tn, htn, htv⟩ := refE hv_18 hcl (vc_le _) (Int32.not_lt.mpr c_19)
        obtain ⟨zs, hz30, hzs, hth⟩ := hV.2.2.2.2.1.2.2 tn htn
        refine lv_aload_n hx hb dX10_ofThings_140 rfl (lv_at hl 2 rfl) ?_
        refine lv_aload_n hx hb dX10_ofThings_141 rfl (lv_at hl 2 rfl) ?_
        refine r_get25 X hw dX10_ofThings_142 ?_
        refine lv_iload hx hb dX10_ofThings_145 (lv_at hl 0 rfl) ?_
        refine r_ald25N (n := tn) X hw ((congrArg Int64.toInt32 htv).trans (lN_i tn)) (by omega) dX10_ofThings_147 ?_
        refine lv_i2l (v := (y_18.2.1 25 tn).toInt64) hx hb dX10_ofThings_148 rfl ?_
        have hpre_20 := mvPut (v := (y_18.2.1 25 tn).toInt64) hV hop (trivial)
        refine m_callv (m_runV (i := .inl 0) (ci := 8) (As := [.long ((y_18.2.1 25 tn).toInt64)]) (rest := []) X (k_X10_put Γ l L y_18 ((y_18.2.1 25 tn).toInt64) f _ hV.1 hV.2.1 hV.2.2.1 hpre_20.1) v_X10_put ml_X10_238 hw hS rfl rfl rfl rfl hl.1 ⟨Nat.le_of_ble_eq_true rfl, Nat.le_of_ble_eq_true rfl⟩ (Nat.le_of_ble_eq_true rfl) ⟨Nat.le_of_ble_eq_true rfl, Nat.le_of_ble_eq_true rfl⟩ dX10_ofThings_149) hS (fun L1 M1 H locs hp_20 hw hS => ?_)
        obtain ⟨e1, e2⟩ := hp_20
        rw [e1, e2] at hw; clear e1 e2
        obtain ⟨-, hV, hq_20⟩ := hpre_20
        generalize r_put y_18 f (q.1, q.2 - 1).2 ((y_18.2.1 25 tn).toInt64) = y_20 at hw hV hq_20
        have hmr := hmr.tr hq_20.1
        have hmo := hmo.tr hq_20.2.1
        have hlo : lo x y_20 f := fun p hp => (hq_20.2.2 p hp).trans (hlo p hp)
        have hv_18 := VT_mo hq_20.2.1.1 hq_20.2.1.2 hv_18
        refine lv_iconst (v := 0) hx hb dX10_ofThings_152 (by decide) ?_
        exact m_iret X hr hlk hw hS (Nat.zero_le _) (Nat.zero_le _) ⟨y_20, mk, rfl, rfl, hmr, hmo, hV.2.2.2.2.1, Or.inl ⟨rfl, hV⟩⟩ dX10_ofThings_153
      · skip
        refine lv_iconst (v := 1) hx hb dX10_ofThings_138 (by decide) ?_
        exact m_iret X hr hlk hw hS (Nat.zero_le _) (Nat.zero_le _) ⟨y_18, mk, rfl, rfl, hmr, hmo, hV.2.2.2.2.1, Or.inr ⟨by decide, by decide, hlo⟩⟩ dX10_ofThings_139
    · have hoe : o = 17 := Int32.toInt_inj.mp c_1v
      refine lv_tableIn (off := 147) (tgt := 154) hx hb dX10_ofThings_7 (by omega) (by omega) (by rw [c_1v]; rfl) (by decide) ?_
      rw [hoe, op_17] at hop
      obtain ⟨w1, h1, hop⟩ := bindE hop
      obtain ⟨w2, h2, hop⟩ := bindE hop
      have hcl := (show vle (vc 5) 4 = true by decide)
      refine lv_aload_n hx hb dX10_ofThings_154 rfl (lv_at hl 2 rfl) ?_
      have hpre_21 := mvTake hV h1
      refine m_calll (m_runV (i := .inl 0) (ci := 8) (As := []) (rest := []) X (k_X10_take Γ l L x f _ hV.1 hV.2.1 hV.2.2.1 hpre_21.1 hV.2.2.2.1) v_X10_take ml_X10_293 hw hS rfl rfl rfl rfl hl.1 ⟨Nat.le_of_ble_eq_true rfl, Nat.le_of_ble_eq_true rfl⟩ (Nat.le_of_ble_eq_true rfl) ⟨Nat.le_of_ble_eq_true rfl, Nat.le_of_ble_eq_true rfl⟩ dX10_ofThings_155) hS (fun r_21 L1 M1 H locs hp_21 hw hS => ?_)
      obtain ⟨er_21, e1, e2⟩ := hp_21
      rw [e1, e2] at hw; clear e1 e2
      obtain ⟨-, hv_21, hV, hq_21⟩ := hpre_21
      rw [← er_21] at hv_21
      clear er_21
      generalize sA x 19 f (nI (q.2 - 1)) = y_21 at hw hV hq_21
      have hmr := hmr.tr hq_21.1
      have hmo := hmo.tr hq_21.2.1
      have hlo : lo x y_21 f := fun p hp => (hq_21.2.2 p hp).trans (hlo p hp)
      have hv_21 := VT_mo hq_21.2.1.1 hq_21.2.1.2 hv_21
      refine lv_l2i (v := r_21.toInt32) hx hb dX10_ofThings_158 rfl ?_
      refine lv_istore (lv' := [(5, .int r_21.toInt32), (4, .int 0), (0, .ref (L (.inl 0))), (1, .int o), (2, .long a)]) hx hb dX10_ofThings_159 hl (by decide) rfl (fun ls hl => ?_)
      refine lv_aload_n hx hb dX10_ofThings_161 rfl (lv_at hl 2 rfl) ?_
      have hpre_22 := mvTake hV h2
      refine m_calll (m_runV (i := .inl 0) (ci := 8) (As := []) (rest := []) X (k_X10_take Γ l L y_21 f _ hV.1 hV.2.1 hV.2.2.1 hpre_22.1 hV.2.2.2.1) v_X10_take ml_X10_293 hw hS rfl rfl rfl rfl hl.1 ⟨Nat.le_of_ble_eq_true rfl, Nat.le_of_ble_eq_true rfl⟩ (Nat.le_of_ble_eq_true rfl) ⟨Nat.le_of_ble_eq_true rfl, Nat.le_of_ble_eq_true rfl⟩ dX10_ofThings_162) hS (fun r_22 L1 M1 H locs hp_22 hw hS => ?_)
      obtain ⟨er_22, e1, e2⟩ := hp_22
      rw [e1, e2] at hw; clear e1 e2
      obtain ⟨-, hv_22, hV, hq_22⟩ := hpre_22
      rw [← er_22] at hv_22
      clear er_22
      generalize sA y_21 19 f (nI (w1.2 - 1)) = y_22 at hw hV hq_22
      have hmr := hmr.tr hq_22.1
      have hmo := hmo.tr hq_22.2.1
      have hlo : lo x y_22 f := fun p hp => (hq_22.2.2 p hp).trans (hlo p hp)
      have hv_21 := VT_mo hq_22.2.1.1 hq_22.2.1.2 hv_21
      have hv_22 := VT_mo hq_22.2.1.1 hq_22.2.1.2 hv_22
      refine lv_l2i (v := r_22.toInt32) hx hb dX10_ofThings_165 rfl ?_
      refine lv_istore (lv' := [(4, .int r_22.toInt32), (5, .int r_21.toInt32), (0, .ref (L (.inl 0))), (1, .int o), (2, .long a)]) hx hb dX10_ofThings_166 hl (by decide) rfl (fun ls hl => ?_)
      refine lv_iload hx hb dX10_ofThings_168 (lv_at hl 0 rfl) ?_
      refine lv_if_lt (tgt := 193) hx hb dX10_ofThings_170 (by decide) (fun c_23 => ?_) (fun c_23 => ?_)
      · skip
        refine lv_iload hx hb dX10_ofThings_193 (lv_at hl 0 rfl) ?_
        refine lv_if_ge (tgt := 202) hx hb dX10_ofThings_195 (by decide) (fun c_24 => ?_) (fun c_24 => ?_)
        · skip
          obtain ⟨tn, htn, htv⟩ := refE hv_22 hcl (vc_le _) (Int32.not_lt.mpr c_24)
          obtain ⟨zs, hz30, hzs, hth⟩ := hV.2.2.2.2.1.2.2 tn htn
          refine lv_iconst (v := 2) hx hb dX10_ofThings_202 (by decide) ?_
          exact m_iret X hr hlk hw hS (Nat.zero_le _) (Nat.zero_le _) ⟨y_22, mk, rfl, rfl, hmr, hmo, hV.2.2.2.2.1, Or.inr ⟨by decide, by decide, hlo⟩⟩ dX10_ofThings_203
        · skip
          refine lv_iconst (v := 1) hx hb dX10_ofThings_198 (by decide) ?_
          refine lv_goto (tgt := 203) hx hb dX10_ofThings_199 (by decide) ?_
          exact m_iret X hr hlk hw hS (Nat.zero_le _) (Nat.zero_le _) ⟨y_22, mk, rfl, rfl, hmr, hmo, hV.2.2.2.2.1, Or.inr ⟨by decide, by decide, hlo⟩⟩ dX10_ofThings_203
      · skip
        obtain ⟨tn, htn, htv⟩ := refE hv_22 hcl (vc_le _) c_23
        obtain ⟨zs, hz30, hzs, hth⟩ := hV.2.2.2.2.1.2.2 tn htn
        refine lv_iload hx hb dX10_ofThings_173 (lv_at hl 1 rfl) ?_
        refine lv_i2l (v := r_21.toInt32.toInt64) hx hb dX10_ofThings_175 rfl ?_
        refine lv_lconst (v := 0) hx hb dX10_ofThings_176 (by decide) ?_
        refine lv_aload_n hx hb dX10_ofThings_177 rfl (lv_at hl 2 rfl) ?_
        refine r_get25 X hw dX10_ofThings_178 ?_
        refine lv_iload hx hb dX10_ofThings_181 (lv_at hl 0 rfl) ?_
        refine r_ald25N (n := tn) X hw ((congrArg Int64.toInt32 htv).trans (lN_i tn)) (by omega) dX10_ofThings_183 ?_
        refine lv_iconst (v := 1) hx hb dX10_ofThings_184 (by decide) ?_
        refine lv_isub hx hb dX10_ofThings_185 ?_
        refine lv_i2l (v := ((y_22.2.1 25 tn) - 1).toInt64) hx hb dX10_ofThings_186 rfl ?_
        refine m_calli (m_runS (As := [.long r_21.toInt32.toInt64, .long 0, .long (((y_22.2.1 25 tn) - 1).toInt64)]) (rest := []) X (k_X10_isIn Γ l L (rM Γ L y_22) r_21.toInt32.toInt64 0 (((y_22.2.1 25 tn) - 1).toInt64) ) s_X10_isIn ml_X10_79 hw hS rfl hl.1 ⟨Nat.le_of_ble_eq_true rfl, Nat.le_of_ble_eq_true rfl⟩ (Nat.le_of_ble_eq_true rfl) ⟨Nat.le_of_ble_eq_true rfl, Nat.le_of_ble_eq_true rfl⟩ dX10_ofThings_187) hS (fun r_26 L1 M1 H locs hp_25 hw hS => ?_)
        obtain ⟨rfl, e1, e2⟩ := hp_25
        rw [e1, e2] at hw; clear e1 e2
        refine lv_if_ne (tgt := 204) hx hb dX10_ofThings_190 (by decide) (fun c_27 => ?_) (fun c_27 => ?_)
        · skip
          have c_27 := bI_t c_27
          rw [hzs, isM_eq2 (by omega)] at c_27
          obtain ⟨jn, hjn, hje⟩ := isM_nat c_27
          refine lv_aload_n hx hb dX10_ofThings_204 rfl (lv_at hl 2 rfl) ?_
          refine lv_aload_n hx hb dX10_ofThings_205 rfl (lv_at hl 2 rfl) ?_
          refine r_get27 X hw dX10_ofThings_206 ?_
          refine lv_bipush (v := 30) hx hb dX10_ofThings_209 (by decide) ?_
          refine lv_iload hx hb dX10_ofThings_211 (lv_at hl 0 rfl) ?_
          refine lv_imul hx hb dX10_ofThings_213 ?_
          refine lv_iload hx hb dX10_ofThings_214 (lv_at hl 1 rfl) ?_
          refine lv_iadd hx hb dX10_ofThings_216 ?_
          refine r_ald27N (n := (30 * tn) + jn) X hw (nadd (a := 30 * tn) (b := jn) (nmul (a := 30) (b := tn) rfl ((congrArg Int64.toInt32 htv).trans (lN_i tn))) hje) (by omega) dX10_ofThings_217 ?_
          have hpre_28 := mvPut (v := y_22.2.2 27 ((30 * tn) + jn)) hV hop (trivial)
          refine m_callv (m_runV (i := .inl 0) (ci := 8) (As := [.long (y_22.2.2 27 ((30 * tn) + jn))]) (rest := []) X (k_X10_put Γ l L y_22 (y_22.2.2 27 ((30 * tn) + jn)) f _ hV.1 hV.2.1 hV.2.2.1 hpre_28.1) v_X10_put ml_X10_238 hw hS rfl rfl rfl rfl hl.1 ⟨Nat.le_of_ble_eq_true rfl, Nat.le_of_ble_eq_true rfl⟩ (Nat.le_of_ble_eq_true rfl) ⟨Nat.le_of_ble_eq_true rfl, Nat.le_of_ble_eq_true rfl⟩ dX10_ofThings_218) hS (fun L1 M1 H locs hp_28 hw hS => ?_)
          obtain ⟨e1, e2⟩ := hp_28
          rw [e1, e2] at hw; clear e1 e2
          obtain ⟨-, hV, hq_28⟩ := hpre_28
          generalize r_put y_22 f w2.2 (y_22.2.2 27 ((30 * tn) + jn)) = y_28 at hw hV hq_28
          have hmr := hmr.tr hq_28.1
          have hmo := hmo.tr hq_28.2.1
          have hlo : lo x y_28 f := fun p hp => (hq_28.2.2 p hp).trans (hlo p hp)
          have hv_21 := VT_mo hq_28.2.1.1 hq_28.2.1.2 hv_21
          have hv_22 := VT_mo hq_28.2.1.1 hq_28.2.1.2 hv_22
          refine lv_iconst (v := 0) hx hb dX10_ofThings_221 (by decide) ?_
          exact m_iret X hr hlk hw hS (Nat.zero_le _) (Nat.zero_le _) ⟨y_28, mk, rfl, rfl, hmr, hmo, hV.2.2.2.2.1, Or.inl ⟨rfl, hV⟩⟩ dX10_ofThings_222
        · skip
          have c_27 := bI_f c_27
          refine lv_iload hx hb dX10_ofThings_193 (lv_at hl 0 rfl) ?_
          refine lv_if_ge (tgt := 202) hx hb dX10_ofThings_195 (by decide) (fun c_29 => ?_) (fun c_29 => ?_)
          · skip
            have c_29n : tn ≥ 0 := ngeT (a := tn) (b := 0) ((congrArg Int64.toInt32 htv).trans (lN_i tn)) rfl (by omega) (by omega) c_29
            have c_29m : ¬ tn < 0 := by omega
            refine lv_iconst (v := 2) hx hb dX10_ofThings_202 (by decide) ?_
            exact m_iret X hr hlk hw hS (Nat.zero_le _) (Nat.zero_le _) ⟨y_22, mk, rfl, rfl, hmr, hmo, hV.2.2.2.2.1, Or.inr ⟨by decide, by decide, hlo⟩⟩ dX10_ofThings_203
          · skip
            have c_29n : ¬ tn ≥ 0 := ngeF (a := tn) (b := 0) ((congrArg Int64.toInt32 htv).trans (lN_i tn)) rfl (by omega) (by omega) c_29
            have c_29m : tn < 0 := by omega
            refine lv_iconst (v := 1) hx hb dX10_ofThings_198 (by decide) ?_
            refine lv_goto (tgt := 203) hx hb dX10_ofThings_199 (by decide) ?_
            exact m_iret X hr hlk hw hS (Nat.zero_le _) (Nat.zero_le _) ⟨y_22, mk, rfl, rfl, hmr, hmo, hV.2.2.2.2.1, Or.inr ⟨by decide, by decide, hlo⟩⟩ dX10_ofThings_203
    · have hoe : o = 18 := Int32.toInt_inj.mp c_1v
      refine lv_tableIn (off := 216) (tgt := 223) hx hb dX10_ofThings_7 (by omega) (by omega) (by rw [c_1v]; rfl) (by decide) ?_
      rw [hoe, op_18] at hop
      obtain ⟨w1, h1, hop⟩ := bindE hop
      obtain ⟨w2, h2, hop⟩ := bindE hop
      have hcl := (show vle (vc 5) 4 = true by decide)
      refine lv_aload_n hx hb dX10_ofThings_223 rfl (lv_at hl 2 rfl) ?_
      have hpre_30 := mvTake hV h1
      refine m_calll (m_runV (i := .inl 0) (ci := 8) (As := []) (rest := []) X (k_X10_take Γ l L x f _ hV.1 hV.2.1 hV.2.2.1 hpre_30.1 hV.2.2.2.1) v_X10_take ml_X10_293 hw hS rfl rfl rfl rfl hl.1 ⟨Nat.le_of_ble_eq_true rfl, Nat.le_of_ble_eq_true rfl⟩ (Nat.le_of_ble_eq_true rfl) ⟨Nat.le_of_ble_eq_true rfl, Nat.le_of_ble_eq_true rfl⟩ dX10_ofThings_224) hS (fun r_30 L1 M1 H locs hp_30 hw hS => ?_)
      obtain ⟨er_30, e1, e2⟩ := hp_30
      rw [e1, e2] at hw; clear e1 e2
      obtain ⟨-, hv_30, hV, hq_30⟩ := hpre_30
      rw [← er_30] at hv_30
      clear er_30
      generalize sA x 19 f (nI (q.2 - 1)) = y_30 at hw hV hq_30
      have hmr := hmr.tr hq_30.1
      have hmo := hmo.tr hq_30.2.1
      have hlo : lo x y_30 f := fun p hp => (hq_30.2.2 p hp).trans (hlo p hp)
      have hv_30 := VT_mo hq_30.2.1.1 hq_30.2.1.2 hv_30
      refine lv_lstore (lv' := [(7, .long r_30), (5, .int 0), (4, .int 0), (0, .ref (L (.inl 0))), (1, .int o), (2, .long a)]) hx hb dX10_ofThings_227 hl (by decide) rfl (fun ls hl => ?_)
      refine lv_aload_n hx hb dX10_ofThings_229 rfl (lv_at hl 3 rfl) ?_
      have hpre_31 := mvTake hV h2
      refine m_calll (m_runV (i := .inl 0) (ci := 8) (As := []) (rest := []) X (k_X10_take Γ l L y_30 f _ hV.1 hV.2.1 hV.2.2.1 hpre_31.1 hV.2.2.2.1) v_X10_take ml_X10_293 hw hS rfl rfl rfl rfl hl.1 ⟨Nat.le_of_ble_eq_true rfl, Nat.le_of_ble_eq_true rfl⟩ (Nat.le_of_ble_eq_true rfl) ⟨Nat.le_of_ble_eq_true rfl, Nat.le_of_ble_eq_true rfl⟩ dX10_ofThings_230) hS (fun r_31 L1 M1 H locs hp_31 hw hS => ?_)
      obtain ⟨er_31, e1, e2⟩ := hp_31
      rw [e1, e2] at hw; clear e1 e2
      obtain ⟨-, hv_31, hV, hq_31⟩ := hpre_31
      rw [← er_31] at hv_31
      clear er_31
      generalize sA y_30 19 f (nI (w1.2 - 1)) = y_31 at hw hV hq_31
      have hmr := hmr.tr hq_31.1
      have hmo := hmo.tr hq_31.2.1
      have hlo : lo x y_31 f := fun p hp => (hq_31.2.2 p hp).trans (hlo p hp)
      have hv_30 := VT_mo hq_31.2.1.1 hq_31.2.1.2 hv_30
      have hv_31 := VT_mo hq_31.2.1.1 hq_31.2.1.2 hv_31
      refine lv_l2i (v := r_31.toInt32) hx hb dX10_ofThings_233 rfl ?_
      refine lv_istore (lv' := [(5, .int r_31.toInt32), (7, .long r_30), (4, .int 0), (0, .ref (L (.inl 0))), (1, .int o), (2, .long a)]) hx hb dX10_ofThings_234 hl (by decide) rfl (fun ls hl => ?_)
      refine lv_aload_n hx hb dX10_ofThings_236 rfl (lv_at hl 3 rfl) ?_
      have hpre_32 := mvTake hV hop
      refine m_calll (m_runV (i := .inl 0) (ci := 8) (As := []) (rest := []) X (k_X10_take Γ l L y_31 f _ hV.1 hV.2.1 hV.2.2.1 hpre_32.1 hV.2.2.2.1) v_X10_take ml_X10_293 hw hS rfl rfl rfl rfl hl.1 ⟨Nat.le_of_ble_eq_true rfl, Nat.le_of_ble_eq_true rfl⟩ (Nat.le_of_ble_eq_true rfl) ⟨Nat.le_of_ble_eq_true rfl, Nat.le_of_ble_eq_true rfl⟩ dX10_ofThings_237) hS (fun r_32 L1 M1 H locs hp_32 hw hS => ?_)
      obtain ⟨er_32, e1, e2⟩ := hp_32
      rw [e1, e2] at hw; clear e1 e2
      obtain ⟨-, hv_32, hV, hq_32⟩ := hpre_32
      rw [← er_32] at hv_32
      clear er_32
      generalize sA y_31 19 f (nI (w2.2 - 1)) = y_32 at hw hV hq_32
      have hmr := hmr.tr hq_32.1
      have hmo := hmo.tr hq_32.2.1
      have hlo : lo x y_32 f := fun p hp => (hq_32.2.2 p hp).trans (hlo p hp)
      have hv_30 := VT_mo hq_32.2.1.1 hq_32.2.1.2 hv_30
      have hv_31 := VT_mo hq_32.2.1.1 hq_32.2.1.2 hv_31
      have hv_32 := VT_mo hq_32.2.1.1 hq_32.2.1.2 hv_32
      refine lv_l2i (v := r_32.toInt32) hx hb dX10_ofThings_240 rfl ?_
      refine lv_istore (lv' := [(4, .int r_32.toInt32), (5, .int r_31.toInt32), (7, .long r_30), (0, .ref (L (.inl 0))), (1, .int o), (2, .long a)]) hx hb dX10_ofThings_241 hl (by decide) rfl (fun ls hl => ?_)
      refine lv_iload hx hb dX10_ofThings_243 (lv_at hl 0 rfl) ?_
      refine lv_if_lt (tgt := 268) hx hb dX10_ofThings_245 (by decide) (fun c_33 => ?_) (fun c_33 => ?_)
      · skip
        refine lv_iload hx hb dX10_ofThings_268 (lv_at hl 0 rfl) ?_
        refine lv_if_ge (tgt := 277) hx hb dX10_ofThings_270 (by decide) (fun c_34 => ?_) (fun c_34 => ?_)
        · skip
          obtain ⟨tn, htn, htv⟩ := refE hv_32 hcl (vc_le _) (Int32.not_lt.mpr c_34)
          obtain ⟨zs, hz30, hzs, hth⟩ := hV.2.2.2.2.1.2.2 tn htn
          refine lv_iconst (v := 2) hx hb dX10_ofThings_277 (by decide) ?_
          exact m_iret X hr hlk hw hS (Nat.zero_le _) (Nat.zero_le _) ⟨y_32, mk, rfl, rfl, hmr, hmo, hV.2.2.2.2.1, Or.inr ⟨by decide, by decide, hlo⟩⟩ dX10_ofThings_278
        · skip
          refine lv_iconst (v := 1) hx hb dX10_ofThings_273 (by decide) ?_
          refine lv_goto (tgt := 278) hx hb dX10_ofThings_274 (by decide) ?_
          exact m_iret X hr hlk hw hS (Nat.zero_le _) (Nat.zero_le _) ⟨y_32, mk, rfl, rfl, hmr, hmo, hV.2.2.2.2.1, Or.inr ⟨by decide, by decide, hlo⟩⟩ dX10_ofThings_278
      · skip
        obtain ⟨tn, htn, htv⟩ := refE hv_32 hcl (vc_le _) c_33
        obtain ⟨zs, hz30, hzs, hth⟩ := hV.2.2.2.2.1.2.2 tn htn
        refine lv_iload hx hb dX10_ofThings_248 (lv_at hl 1 rfl) ?_
        refine lv_i2l (v := r_31.toInt32.toInt64) hx hb dX10_ofThings_250 rfl ?_
        refine lv_lconst (v := 0) hx hb dX10_ofThings_251 (by decide) ?_
        refine lv_aload_n hx hb dX10_ofThings_252 rfl (lv_at hl 3 rfl) ?_
        refine r_get25 X hw dX10_ofThings_253 ?_
        refine lv_iload hx hb dX10_ofThings_256 (lv_at hl 0 rfl) ?_
        refine r_ald25N (n := tn) X hw ((congrArg Int64.toInt32 htv).trans (lN_i tn)) (by omega) dX10_ofThings_258 ?_
        refine lv_iconst (v := 1) hx hb dX10_ofThings_259 (by decide) ?_
        refine lv_isub hx hb dX10_ofThings_260 ?_
        refine lv_i2l (v := ((y_32.2.1 25 tn) - 1).toInt64) hx hb dX10_ofThings_261 rfl ?_
        refine m_calli (m_runS (As := [.long r_31.toInt32.toInt64, .long 0, .long (((y_32.2.1 25 tn) - 1).toInt64)]) (rest := []) X (k_X10_isIn Γ l L (rM Γ L y_32) r_31.toInt32.toInt64 0 (((y_32.2.1 25 tn) - 1).toInt64) ) s_X10_isIn ml_X10_79 hw hS rfl hl.1 ⟨Nat.le_of_ble_eq_true rfl, Nat.le_of_ble_eq_true rfl⟩ (Nat.le_of_ble_eq_true rfl) ⟨Nat.le_of_ble_eq_true rfl, Nat.le_of_ble_eq_true rfl⟩ dX10_ofThings_262) hS (fun r_36 L1 M1 H locs hp_35 hw hS => ?_)
        obtain ⟨rfl, e1, e2⟩ := hp_35
        rw [e1, e2] at hw; clear e1 e2
        refine lv_if_ne (tgt := 279) hx hb dX10_ofThings_265 (by decide) (fun c_37 => ?_) (fun c_37 => ?_)
        · skip
          have c_37 := bI_t c_37
          rw [hzs, isM_eq2 (by omega)] at c_37
          obtain ⟨jn, hjn, hje⟩ := isM_nat c_37
          refine lv_iload_n hx hb dX10_ofThings_279 rfl (lv_at hl 4 rfl) ?_
          refine lv_bipush (v := 20) hx hb dX10_ofThings_280 (by decide) ?_
          refine lv_icmp_ne (tgt := 314) hx hb dX10_ofThings_282 (by decide) (fun _ => ?_) (fun c => absurd (hoe.symm.trans c) (by decide))
          refine lv_aload_n hx hb dX10_ofThings_314 rfl (lv_at hl 3 rfl) ?_
          refine r_get27 X hw dX10_ofThings_315 ?_
          refine lv_bipush (v := 30) hx hb dX10_ofThings_318 (by decide) ?_
          refine lv_iload hx hb dX10_ofThings_320 (lv_at hl 0 rfl) ?_
          refine lv_imul hx hb dX10_ofThings_322 ?_
          refine lv_iload hx hb dX10_ofThings_323 (lv_at hl 1 rfl) ?_
          refine lv_iadd hx hb dX10_ofThings_325 ?_
          refine lv_lload hx hb dX10_ofThings_326 (lv_at hl 2 rfl) ?_
          refine r_ast27N (n := (30 * tn) + jn) X hw hS (nadd (a := 30 * tn) (b := jn) (nmul (a := 30) (b := tn) rfl ((congrArg Int64.toInt32 htv).trans (lN_i tn))) hje) (by omega) dX10_ofThings_328 (fun H locs hw hS => ?_)
          obtain ⟨hV, hq_38⟩ := mvThing (t := tn) (j := jn) (v := r_30) hV (by omega) (fun hs => absurd (so50 hmk20 htn (by have e9 := hv_32; rw [htv] at e9; exact e9)) hs)
          generalize sJ y_32 27 (30 * tn + jn) r_30 = y_38 at hw hV hq_38
          have hmr := hmr.tr hq_38.1
          have hmo := hmo.tr hq_38.2.1
          refine lv_iconst (v := 0) hx hb dX10_ofThings_329 (by decide) ?_
          exact m_iret X hr hlk hw hS (Nat.zero_le _) (Nat.zero_le _) ⟨y_38, mk, rfl, rfl, hmr, hmo, hV.2.2.2.2.1, Or.inl ⟨rfl, hV⟩⟩ dX10_ofThings_330
        · skip
          have c_37 := bI_f c_37
          refine lv_iload hx hb dX10_ofThings_268 (lv_at hl 0 rfl) ?_
          refine lv_if_ge (tgt := 277) hx hb dX10_ofThings_270 (by decide) (fun c_39 => ?_) (fun c_39 => ?_)
          · skip
            have c_39n : tn ≥ 0 := ngeT (a := tn) (b := 0) ((congrArg Int64.toInt32 htv).trans (lN_i tn)) rfl (by omega) (by omega) c_39
            have c_39m : ¬ tn < 0 := by omega
            refine lv_iconst (v := 2) hx hb dX10_ofThings_277 (by decide) ?_
            exact m_iret X hr hlk hw hS (Nat.zero_le _) (Nat.zero_le _) ⟨y_32, mk, rfl, rfl, hmr, hmo, hV.2.2.2.2.1, Or.inr ⟨by decide, by decide, hlo⟩⟩ dX10_ofThings_278
          · skip
            have c_39n : ¬ tn ≥ 0 := ngeF (a := tn) (b := 0) ((congrArg Int64.toInt32 htv).trans (lN_i tn)) rfl (by omega) (by omega) c_39
            have c_39m : tn < 0 := by omega
            refine lv_iconst (v := 1) hx hb dX10_ofThings_273 (by decide) ?_
            refine lv_goto (tgt := 278) hx hb dX10_ofThings_274 (by decide) ?_
            exact m_iret X hr hlk hw hS (Nat.zero_le _) (Nat.zero_le _) ⟨y_32, mk, rfl, rfl, hmr, hmo, hV.2.2.2.2.1, Or.inr ⟨by decide, by decide, hlo⟩⟩ dX10_ofThings_278
    · have hoe : o = 19 := Int32.toInt_inj.mp c_1v
      refine lv_tableIn (off := 147) (tgt := 154) hx hb dX10_ofThings_7 (by omega) (by omega) (by rw [c_1v]; rfl) (by decide) ?_
      rw [hoe, op_19] at hop
      obtain ⟨w1, h1, hop⟩ := bindE hop
      obtain ⟨hin, hop⟩ := iteE hop
      have h1q : 1 ≤ w1.2 := by omega
      have hcl := rowN_4 hin.2
      refine lv_aload_n hx hb dX10_ofThings_154 rfl (lv_at hl 2 rfl) ?_
      have hpre_40 := mvTake hV h1
      refine m_calll (m_runV (i := .inl 0) (ci := 8) (As := []) (rest := []) X (k_X10_take Γ l L x f _ hV.1 hV.2.1 hV.2.2.1 hpre_40.1 hV.2.2.2.1) v_X10_take ml_X10_293 hw hS rfl rfl rfl rfl hl.1 ⟨Nat.le_of_ble_eq_true rfl, Nat.le_of_ble_eq_true rfl⟩ (Nat.le_of_ble_eq_true rfl) ⟨Nat.le_of_ble_eq_true rfl, Nat.le_of_ble_eq_true rfl⟩ dX10_ofThings_155) hS (fun r_40 L1 M1 H locs hp_40 hw hS => ?_)
      obtain ⟨er_40, e1, e2⟩ := hp_40
      rw [e1, e2] at hw; clear e1 e2
      obtain ⟨-, hv_40, hV, hq_40⟩ := hpre_40
      rw [← er_40] at hv_40
      clear er_40
      generalize sA x 19 f (nI (q.2 - 1)) = y_40 at hw hV hq_40
      have hmr := hmr.tr hq_40.1
      have hmo := hmo.tr hq_40.2.1
      have hlo : lo x y_40 f := fun p hp => (hq_40.2.2 p hp).trans (hlo p hp)
      have hv_40 := VT_mo hq_40.2.1.1 hq_40.2.1.2 hv_40
      refine lv_l2i (v := r_40.toInt32) hx hb dX10_ofThings_158 rfl ?_
      refine lv_istore (lv' := [(5, .int r_40.toInt32), (4, .int 0), (0, .ref (L (.inl 0))), (1, .int o), (2, .long a)]) hx hb dX10_ofThings_159 hl (by decide) rfl (fun ls hl => ?_)
      refine lv_aload_n hx hb dX10_ofThings_161 rfl (lv_at hl 2 rfl) ?_
      have hpre_41 := And.intro h1q (And.intro (mvTop hV h1q) (mvDrop (e := 1) hV h1q))
      refine m_calll (m_runV (i := .inl 0) (ci := 8) (As := []) (rest := []) X (k_X10_take Γ l L y_40 f _ hV.1 hV.2.1 hV.2.2.1 hpre_41.1 hV.2.2.2.1) v_X10_take ml_X10_293 hw hS rfl rfl rfl rfl hl.1 ⟨Nat.le_of_ble_eq_true rfl, Nat.le_of_ble_eq_true rfl⟩ (Nat.le_of_ble_eq_true rfl) ⟨Nat.le_of_ble_eq_true rfl, Nat.le_of_ble_eq_true rfl⟩ dX10_ofThings_162) hS (fun r_41 L1 M1 H locs hp_41 hw hS => ?_)
      obtain ⟨er_41, e1, e2⟩ := hp_41
      rw [e1, e2] at hw; clear e1 e2
      obtain ⟨-, hv_41, hV, hq_41⟩ := hpre_41
      rw [← er_41] at hv_41
      clear er_41
      generalize sA y_40 19 f (nI (w1.2 - 1)) = y_41 at hw hV hq_41
      have hmr := hmr.tr hq_41.1
      have hmo := hmo.tr hq_41.2.1
      have hlo : lo x y_41 f := fun p hp => (hq_41.2.2 p hp).trans (hlo p hp)
      have hv_40 := VT_mo hq_41.2.1.1 hq_41.2.1.2 hv_40
      have hv_41 := VT_mo hq_41.2.1.1 hq_41.2.1.2 hv_41
      refine lv_l2i (v := r_41.toInt32) hx hb dX10_ofThings_165 rfl ?_
      refine lv_istore (lv' := [(4, .int r_41.toInt32), (5, .int r_40.toInt32), (0, .ref (L (.inl 0))), (1, .int o), (2, .long a)]) hx hb dX10_ofThings_166 hl (by decide) rfl (fun ls hl => ?_)
      refine lv_iload hx hb dX10_ofThings_168 (lv_at hl 0 rfl) ?_
      refine lv_if_lt (tgt := 193) hx hb dX10_ofThings_170 (by decide) (fun c_42 => ?_) (fun c_42 => ?_)
      · skip
        refine lv_iload hx hb dX10_ofThings_193 (lv_at hl 0 rfl) ?_
        refine lv_if_ge (tgt := 202) hx hb dX10_ofThings_195 (by decide) (fun c_43 => ?_) (fun c_43 => ?_)
        · skip
          obtain ⟨tn, htn, htv⟩ := refE hv_41 hcl (vc_le _) (Int32.not_lt.mpr c_43)
          obtain ⟨zs, hz30, hzs, hth⟩ := hV.2.2.2.2.1.2.2 tn htn
          refine lv_iconst (v := 2) hx hb dX10_ofThings_202 (by decide) ?_
          exact m_iret X hr hlk hw hS (Nat.zero_le _) (Nat.zero_le _) ⟨y_41, mk, rfl, rfl, hmr, hmo, hV.2.2.2.2.1, Or.inr ⟨by decide, by decide, hlo⟩⟩ dX10_ofThings_203
        · skip
          refine lv_iconst (v := 1) hx hb dX10_ofThings_198 (by decide) ?_
          refine lv_goto (tgt := 203) hx hb dX10_ofThings_199 (by decide) ?_
          exact m_iret X hr hlk hw hS (Nat.zero_le _) (Nat.zero_le _) ⟨y_41, mk, rfl, rfl, hmr, hmo, hV.2.2.2.2.1, Or.inr ⟨by decide, by decide, hlo⟩⟩ dX10_ofThings_203
      · skip
        obtain ⟨tn, htn, htv⟩ := refE hv_41 hcl (vc_le _) c_42
        obtain ⟨zs, hz30, hzs, hth⟩ := hV.2.2.2.2.1.2.2 tn htn
        refine lv_iload hx hb dX10_ofThings_173 (lv_at hl 1 rfl) ?_
        refine lv_i2l (v := r_40.toInt32.toInt64) hx hb dX10_ofThings_175 rfl ?_
        refine lv_lconst (v := 0) hx hb dX10_ofThings_176 (by decide) ?_
        refine lv_aload_n hx hb dX10_ofThings_177 rfl (lv_at hl 2 rfl) ?_
        refine r_get25 X hw dX10_ofThings_178 ?_
        refine lv_iload hx hb dX10_ofThings_181 (lv_at hl 0 rfl) ?_
        refine r_ald25N (n := tn) X hw ((congrArg Int64.toInt32 htv).trans (lN_i tn)) (by omega) dX10_ofThings_183 ?_
        refine lv_iconst (v := 1) hx hb dX10_ofThings_184 (by decide) ?_
        refine lv_isub hx hb dX10_ofThings_185 ?_
        refine lv_i2l (v := ((y_41.2.1 25 tn) - 1).toInt64) hx hb dX10_ofThings_186 rfl ?_
        refine m_calli (m_runS (As := [.long r_40.toInt32.toInt64, .long 0, .long (((y_41.2.1 25 tn) - 1).toInt64)]) (rest := []) X (k_X10_isIn Γ l L (rM Γ L y_41) r_40.toInt32.toInt64 0 (((y_41.2.1 25 tn) - 1).toInt64) ) s_X10_isIn ml_X10_79 hw hS rfl hl.1 ⟨Nat.le_of_ble_eq_true rfl, Nat.le_of_ble_eq_true rfl⟩ (Nat.le_of_ble_eq_true rfl) ⟨Nat.le_of_ble_eq_true rfl, Nat.le_of_ble_eq_true rfl⟩ dX10_ofThings_187) hS (fun r_45 L1 M1 H locs hp_44 hw hS => ?_)
        obtain ⟨rfl, e1, e2⟩ := hp_44
        rw [e1, e2] at hw; clear e1 e2
        refine lv_if_ne (tgt := 204) hx hb dX10_ofThings_190 (by decide) (fun c_46 => ?_) (fun c_46 => ?_)
        · skip
          have c_46 := bI_t c_46
          rw [hzs, isM_eq2 (by omega)] at c_46
          obtain ⟨jn, hjn, hje⟩ := isM_nat c_46
          refine lv_aload_n hx hb dX10_ofThings_204 rfl (lv_at hl 2 rfl) ?_
          refine lv_aload_n hx hb dX10_ofThings_205 rfl (lv_at hl 2 rfl) ?_
          refine r_get27 X hw dX10_ofThings_206 ?_
          refine lv_bipush (v := 30) hx hb dX10_ofThings_209 (by decide) ?_
          refine lv_iload hx hb dX10_ofThings_211 (lv_at hl 0 rfl) ?_
          refine lv_imul hx hb dX10_ofThings_213 ?_
          refine lv_iload hx hb dX10_ofThings_214 (lv_at hl 1 rfl) ?_
          refine lv_iadd hx hb dX10_ofThings_216 ?_
          refine r_ald27N (n := (30 * tn) + jn) X hw (nadd (a := 30 * tn) (b := jn) (nmul (a := 30) (b := tn) rfl ((congrArg Int64.toInt32 htv).trans (lN_i tn))) hje) (by omega) dX10_ofThings_217 ?_
          have hpre_47 := mvPut (v := y_41.2.2 27 ((30 * tn) + jn)) hV hop (by rw [if_neg (fun e4 => lN_ne (by omega) (row_ne hv_41 e4 htv)), rowN_el hin.2 (fun e4 => lN_ne (by omega) (row_ne hv_41 e4 htv))]; exact hth (soN hmk20 htn (by have := VT_le (rowN_3 hin.2) (vc_le _) (by omega) hv_41; rw [htv] at this; exact this)) jn hjn)
          refine m_callv (m_runV (i := .inl 0) (ci := 8) (As := [.long (y_41.2.2 27 ((30 * tn) + jn))]) (rest := []) X (k_X10_put Γ l L y_41 (y_41.2.2 27 ((30 * tn) + jn)) f _ hV.1 hV.2.1 hV.2.2.1 hpre_47.1) v_X10_put ml_X10_238 hw hS rfl rfl rfl rfl hl.1 ⟨Nat.le_of_ble_eq_true rfl, Nat.le_of_ble_eq_true rfl⟩ (Nat.le_of_ble_eq_true rfl) ⟨Nat.le_of_ble_eq_true rfl, Nat.le_of_ble_eq_true rfl⟩ dX10_ofThings_218) hS (fun L1 M1 H locs hp_47 hw hS => ?_)
          obtain ⟨e1, e2⟩ := hp_47
          rw [e1, e2] at hw; clear e1 e2
          obtain ⟨-, hV, hq_47⟩ := hpre_47
          generalize r_put y_41 f (w1.1, w1.2 - 1).2 (y_41.2.2 27 ((30 * tn) + jn)) = y_47 at hw hV hq_47
          have hmr := hmr.tr hq_47.1
          have hmo := hmo.tr hq_47.2.1
          have hlo : lo x y_47 f := fun p hp => (hq_47.2.2 p hp).trans (hlo p hp)
          have hv_40 := VT_mo hq_47.2.1.1 hq_47.2.1.2 hv_40
          have hv_41 := VT_mo hq_47.2.1.1 hq_47.2.1.2 hv_41
          refine lv_iconst (v := 0) hx hb dX10_ofThings_221 (by decide) ?_
          exact m_iret X hr hlk hw hS (Nat.zero_le _) (Nat.zero_le _) ⟨y_47, mk, rfl, rfl, hmr, hmo, hV.2.2.2.2.1, Or.inl ⟨rfl, hV⟩⟩ dX10_ofThings_222
        · skip
          have c_46 := bI_f c_46
          refine lv_iload hx hb dX10_ofThings_193 (lv_at hl 0 rfl) ?_
          refine lv_if_ge (tgt := 202) hx hb dX10_ofThings_195 (by decide) (fun c_48 => ?_) (fun c_48 => ?_)
          · skip
            have c_48n : tn ≥ 0 := ngeT (a := tn) (b := 0) ((congrArg Int64.toInt32 htv).trans (lN_i tn)) rfl (by omega) (by omega) c_48
            have c_48m : ¬ tn < 0 := by omega
            refine lv_iconst (v := 2) hx hb dX10_ofThings_202 (by decide) ?_
            exact m_iret X hr hlk hw hS (Nat.zero_le _) (Nat.zero_le _) ⟨y_41, mk, rfl, rfl, hmr, hmo, hV.2.2.2.2.1, Or.inr ⟨by decide, by decide, hlo⟩⟩ dX10_ofThings_203
          · skip
            have c_48n : ¬ tn ≥ 0 := ngeF (a := tn) (b := 0) ((congrArg Int64.toInt32 htv).trans (lN_i tn)) rfl (by omega) (by omega) c_48
            have c_48m : tn < 0 := by omega
            refine lv_iconst (v := 1) hx hb dX10_ofThings_198 (by decide) ?_
            refine lv_goto (tgt := 203) hx hb dX10_ofThings_199 (by decide) ?_
            exact m_iret X hr hlk hw hS (Nat.zero_le _) (Nat.zero_le _) ⟨y_41, mk, rfl, rfl, hmr, hmo, hV.2.2.2.2.1, Or.inr ⟨by decide, by decide, hlo⟩⟩ dX10_ofThings_203
    · have hoe : o = 20 := Int32.toInt_inj.mp c_1v
      refine lv_tableIn (off := 216) (tgt := 223) hx hb dX10_ofThings_7 (by omega) (by omega) (by rw [c_1v]; rfl) (by decide) ?_
      rw [hoe, op_20] at hop
      obtain ⟨w1, h1, hop⟩ := bindE hop
      obtain ⟨w2, h2, hop⟩ := bindE hop
      obtain ⟨hin, hop⟩ := iteE hop
      have h1q : 1 ≤ w2.2 := by omega
      have hcl := rowN_4 hin.2
      cases hop
      refine lv_aload_n hx hb dX10_ofThings_223 rfl (lv_at hl 2 rfl) ?_
      have hpre_49 := mvTake hV h1
      refine m_calll (m_runV (i := .inl 0) (ci := 8) (As := []) (rest := []) X (k_X10_take Γ l L x f _ hV.1 hV.2.1 hV.2.2.1 hpre_49.1 hV.2.2.2.1) v_X10_take ml_X10_293 hw hS rfl rfl rfl rfl hl.1 ⟨Nat.le_of_ble_eq_true rfl, Nat.le_of_ble_eq_true rfl⟩ (Nat.le_of_ble_eq_true rfl) ⟨Nat.le_of_ble_eq_true rfl, Nat.le_of_ble_eq_true rfl⟩ dX10_ofThings_224) hS (fun r_49 L1 M1 H locs hp_49 hw hS => ?_)
      obtain ⟨er_49, e1, e2⟩ := hp_49
      rw [e1, e2] at hw; clear e1 e2
      obtain ⟨-, hv_49, hV, hq_49⟩ := hpre_49
      rw [← er_49] at hv_49
      clear er_49
      generalize sA x 19 f (nI (q.2 - 1)) = y_49 at hw hV hq_49
      have hmr := hmr.tr hq_49.1
      have hmo := hmo.tr hq_49.2.1
      have hlo : lo x y_49 f := fun p hp => (hq_49.2.2 p hp).trans (hlo p hp)
      have hv_49 := VT_mo hq_49.2.1.1 hq_49.2.1.2 hv_49
      refine lv_lstore (lv' := [(7, .long r_49), (5, .int 0), (4, .int 0), (0, .ref (L (.inl 0))), (1, .int o), (2, .long a)]) hx hb dX10_ofThings_227 hl (by decide) rfl (fun ls hl => ?_)
      refine lv_aload_n hx hb dX10_ofThings_229 rfl (lv_at hl 3 rfl) ?_
      have hpre_50 := mvTake hV h2
      refine m_calll (m_runV (i := .inl 0) (ci := 8) (As := []) (rest := []) X (k_X10_take Γ l L y_49 f _ hV.1 hV.2.1 hV.2.2.1 hpre_50.1 hV.2.2.2.1) v_X10_take ml_X10_293 hw hS rfl rfl rfl rfl hl.1 ⟨Nat.le_of_ble_eq_true rfl, Nat.le_of_ble_eq_true rfl⟩ (Nat.le_of_ble_eq_true rfl) ⟨Nat.le_of_ble_eq_true rfl, Nat.le_of_ble_eq_true rfl⟩ dX10_ofThings_230) hS (fun r_50 L1 M1 H locs hp_50 hw hS => ?_)
      obtain ⟨er_50, e1, e2⟩ := hp_50
      rw [e1, e2] at hw; clear e1 e2
      obtain ⟨-, hv_50, hV, hq_50⟩ := hpre_50
      rw [← er_50] at hv_50
      clear er_50
      generalize sA y_49 19 f (nI (w1.2 - 1)) = y_50 at hw hV hq_50
      have hmr := hmr.tr hq_50.1
      have hmo := hmo.tr hq_50.2.1
      have hlo : lo x y_50 f := fun p hp => (hq_50.2.2 p hp).trans (hlo p hp)
      have hv_49 := VT_mo hq_50.2.1.1 hq_50.2.1.2 hv_49
      have hv_50 := VT_mo hq_50.2.1.1 hq_50.2.1.2 hv_50
      refine lv_l2i (v := r_50.toInt32) hx hb dX10_ofThings_233 rfl ?_
      refine lv_istore (lv' := [(5, .int r_50.toInt32), (7, .long r_49), (4, .int 0), (0, .ref (L (.inl 0))), (1, .int o), (2, .long a)]) hx hb dX10_ofThings_234 hl (by decide) rfl (fun ls hl => ?_)
      refine lv_aload_n hx hb dX10_ofThings_236 rfl (lv_at hl 3 rfl) ?_
      have hpre_51 := And.intro h1q (And.intro (mvTop hV h1q) (mvDrop (e := 1) hV h1q))
      refine m_calll (m_runV (i := .inl 0) (ci := 8) (As := []) (rest := []) X (k_X10_take Γ l L y_50 f _ hV.1 hV.2.1 hV.2.2.1 hpre_51.1 hV.2.2.2.1) v_X10_take ml_X10_293 hw hS rfl rfl rfl rfl hl.1 ⟨Nat.le_of_ble_eq_true rfl, Nat.le_of_ble_eq_true rfl⟩ (Nat.le_of_ble_eq_true rfl) ⟨Nat.le_of_ble_eq_true rfl, Nat.le_of_ble_eq_true rfl⟩ dX10_ofThings_237) hS (fun r_51 L1 M1 H locs hp_51 hw hS => ?_)
      obtain ⟨er_51, e1, e2⟩ := hp_51
      rw [e1, e2] at hw; clear e1 e2
      obtain ⟨-, hv_51, hV, hq_51⟩ := hpre_51
      rw [← er_51] at hv_51
      clear er_51
      generalize sA y_50 19 f (nI (w2.2 - 1)) = y_51 at hw hV hq_51
      have hmr := hmr.tr hq_51.1
      have hmo := hmo.tr hq_51.2.1
      have hlo : lo x y_51 f := fun p hp => (hq_51.2.2 p hp).trans (hlo p hp)
      have hv_49 := VT_mo hq_51.2.1.1 hq_51.2.1.2 hv_49
      have hv_50 := VT_mo hq_51.2.1.1 hq_51.2.1.2 hv_50
      have hv_51 := VT_mo hq_51.2.1.1 hq_51.2.1.2 hv_51
      refine lv_l2i (v := r_51.toInt32) hx hb dX10_ofThings_240 rfl ?_
      refine lv_istore (lv' := [(4, .int r_51.toInt32), (5, .int r_50.toInt32), (7, .long r_49), (0, .ref (L (.inl 0))), (1, .int o), (2, .long a)]) hx hb dX10_ofThings_241 hl (by decide) rfl (fun ls hl => ?_)
      refine lv_iload hx hb dX10_ofThings_243 (lv_at hl 0 rfl) ?_
      refine lv_if_lt (tgt := 268) hx hb dX10_ofThings_245 (by decide) (fun c_52 => ?_) (fun c_52 => ?_)
      · skip
        refine lv_iload hx hb dX10_ofThings_268 (lv_at hl 0 rfl) ?_
        refine lv_if_ge (tgt := 277) hx hb dX10_ofThings_270 (by decide) (fun c_53 => ?_) (fun c_53 => ?_)
        · skip
          obtain ⟨tn, htn, htv⟩ := refE hv_51 hcl (vc_le _) (Int32.not_lt.mpr c_53)
          obtain ⟨zs, hz30, hzs, hth⟩ := hV.2.2.2.2.1.2.2 tn htn
          refine lv_iconst (v := 2) hx hb dX10_ofThings_277 (by decide) ?_
          exact m_iret X hr hlk hw hS (Nat.zero_le _) (Nat.zero_le _) ⟨y_51, mk, rfl, rfl, hmr, hmo, hV.2.2.2.2.1, Or.inr ⟨by decide, by decide, hlo⟩⟩ dX10_ofThings_278
        · skip
          refine lv_iconst (v := 1) hx hb dX10_ofThings_273 (by decide) ?_
          refine lv_goto (tgt := 278) hx hb dX10_ofThings_274 (by decide) ?_
          exact m_iret X hr hlk hw hS (Nat.zero_le _) (Nat.zero_le _) ⟨y_51, mk, rfl, rfl, hmr, hmo, hV.2.2.2.2.1, Or.inr ⟨by decide, by decide, hlo⟩⟩ dX10_ofThings_278
      · skip
        obtain ⟨tn, htn, htv⟩ := refE hv_51 hcl (vc_le _) c_52
        obtain ⟨zs, hz30, hzs, hth⟩ := hV.2.2.2.2.1.2.2 tn htn
        refine lv_iload hx hb dX10_ofThings_248 (lv_at hl 1 rfl) ?_
        refine lv_i2l (v := r_50.toInt32.toInt64) hx hb dX10_ofThings_250 rfl ?_
        refine lv_lconst (v := 0) hx hb dX10_ofThings_251 (by decide) ?_
        refine lv_aload_n hx hb dX10_ofThings_252 rfl (lv_at hl 3 rfl) ?_
        refine r_get25 X hw dX10_ofThings_253 ?_
        refine lv_iload hx hb dX10_ofThings_256 (lv_at hl 0 rfl) ?_
        refine r_ald25N (n := tn) X hw ((congrArg Int64.toInt32 htv).trans (lN_i tn)) (by omega) dX10_ofThings_258 ?_
        refine lv_iconst (v := 1) hx hb dX10_ofThings_259 (by decide) ?_
        refine lv_isub hx hb dX10_ofThings_260 ?_
        refine lv_i2l (v := ((y_51.2.1 25 tn) - 1).toInt64) hx hb dX10_ofThings_261 rfl ?_
        refine m_calli (m_runS (As := [.long r_50.toInt32.toInt64, .long 0, .long (((y_51.2.1 25 tn) - 1).toInt64)]) (rest := []) X (k_X10_isIn Γ l L (rM Γ L y_51) r_50.toInt32.toInt64 0 (((y_51.2.1 25 tn) - 1).toInt64) ) s_X10_isIn ml_X10_79 hw hS rfl hl.1 ⟨Nat.le_of_ble_eq_true rfl, Nat.le_of_ble_eq_true rfl⟩ (Nat.le_of_ble_eq_true rfl) ⟨Nat.le_of_ble_eq_true rfl, Nat.le_of_ble_eq_true rfl⟩ dX10_ofThings_262) hS (fun r_55 L1 M1 H locs hp_54 hw hS => ?_)
        obtain ⟨rfl, e1, e2⟩ := hp_54
        rw [e1, e2] at hw; clear e1 e2
        refine lv_if_ne (tgt := 279) hx hb dX10_ofThings_265 (by decide) (fun c_56 => ?_) (fun c_56 => ?_)
        · skip
          have c_56 := bI_t c_56
          rw [hzs, isM_eq2 (by omega)] at c_56
          obtain ⟨jn, hjn, hje⟩ := isM_nat c_56
          refine lv_iload_n hx hb dX10_ofThings_279 rfl (lv_at hl 4 rfl) ?_
          refine lv_bipush (v := 20) hx hb dX10_ofThings_280 (by decide) ?_
          refine lv_icmp_ne (tgt := 314) hx hb dX10_ofThings_282 (by decide) (fun c => absurd hoe c) (fun _ => ?_)
          refine lv_lload hx hb dX10_ofThings_285 (lv_at hl 2 rfl) ?_
          refine lv_lconst (v := 0) hx hb dX10_ofThings_287 (by decide) ?_
          refine m_lcmp_lt (tgt := 314) hx hb dX10_ofThings_288 dX10_ofThings_289 (by decide) (fun c_57 => ?_) (fun c_57 => ?_)
          · skip
            refine lv_aload_n hx hb dX10_ofThings_314 rfl (lv_at hl 3 rfl) ?_
            refine r_get27 X hw dX10_ofThings_315 ?_
            refine lv_bipush (v := 30) hx hb dX10_ofThings_318 (by decide) ?_
            refine lv_iload hx hb dX10_ofThings_320 (lv_at hl 0 rfl) ?_
            refine lv_imul hx hb dX10_ofThings_322 ?_
            refine lv_iload hx hb dX10_ofThings_323 (lv_at hl 1 rfl) ?_
            refine lv_iadd hx hb dX10_ofThings_325 ?_
            refine lv_lload hx hb dX10_ofThings_326 (lv_at hl 2 rfl) ?_
            refine r_ast27N (n := (30 * tn) + jn) X hw hS (nadd (a := 30 * tn) (b := jn) (nmul (a := 30) (b := tn) rfl ((congrArg Int64.toInt32 htv).trans (lN_i tn))) hje) (by omega) dX10_ofThings_328 (fun H locs hw hS => ?_)
            obtain ⟨hV, hq_58⟩ := mvThing (t := tn) (j := jn) (v := r_49) hV (by omega) (fun _ => hv_49)
            generalize sJ y_51 27 (30 * tn + jn) r_49 = y_58 at hw hV hq_58
            have hmr := hmr.tr hq_58.1
            have hmo := hmo.tr hq_58.2.1
            refine lv_iconst (v := 0) hx hb dX10_ofThings_329 (by decide) ?_
            exact m_iret X hr hlk hw hS (Nat.zero_le _) (Nat.zero_le _) ⟨y_58, mk, rfl, rfl, hmr, hmo, hV.2.2.2.2.1, Or.inl ⟨rfl, hV⟩⟩ dX10_ofThings_330
          · skip
            obtain ⟨vn, hvn, hvv⟩ := refE2 hv_49 (by decide) (by decide) c_57
            refine lv_aload_n hx hb dX10_ofThings_292 rfl (lv_at hl 3 rfl) ?_
            refine lv_lload hx hb dX10_ofThings_293 (lv_at hl 2 rfl) ?_
            refine lv_l2i (v := r_49.toInt32) hx hb dX10_ofThings_295 rfl ?_
            refine lv_aload_n hx hb dX10_ofThings_296 rfl (lv_at hl 3 rfl) ?_
            refine r_get24 X hw dX10_ofThings_297 ?_
            refine lv_iload hx hb dX10_ofThings_300 (lv_at hl 0 rfl) ?_
            refine r_ald24N (n := tn) X hw ((congrArg Int64.toInt32 htv).trans (lN_i tn)) (by omega) dX10_ofThings_302 ?_
            refine lv_bipush (v := 20) hx hb dX10_ofThings_303 (by decide) ?_
            refine lv_isub hx hb dX10_ofThings_305 ?_
            refine m_calli (m_runV (i := .inl 0) (ci := 8) (As := [.int r_49.toInt32, .int ((y_51.2.1 24 tn) - 20)]) (rest := []) X (k_X10_isOf Γ l L y_51 r_49.toInt32 ((y_51.2.1 24 tn) - 20) vn ((congrArg Int64.toInt32 hvv).trans (lN_i vn)) (by omega)) v_X10_isOf ml_X10_311 hw hS rfl rfl rfl rfl hl.1 ⟨Nat.le_of_ble_eq_true rfl, Nat.le_of_ble_eq_true rfl⟩ (Nat.le_of_ble_eq_true rfl) ⟨Nat.le_of_ble_eq_true rfl, Nat.le_of_ble_eq_true rfl⟩ dX10_ofThings_306) hS (fun r_59 L1 M1 H locs hp_59 hw hS => ?_)
            obtain ⟨er_59, e1, e2⟩ := hp_59
            rw [e1, e2] at hw; clear e1 e2
            subst er_59
            refine lv_if_ne (tgt := 314) hx hb dX10_ofThings_309 (by decide) (fun c_60 => ?_) (fun c_60 => ?_)
            · skip
              have c_60 := bI_t c_60
              refine lv_aload_n hx hb dX10_ofThings_314 rfl (lv_at hl 3 rfl) ?_
              refine r_get27 X hw dX10_ofThings_315 ?_
              refine lv_bipush (v := 30) hx hb dX10_ofThings_318 (by decide) ?_
              refine lv_iload hx hb dX10_ofThings_320 (lv_at hl 0 rfl) ?_
              refine lv_imul hx hb dX10_ofThings_322 ?_
              refine lv_iload hx hb dX10_ofThings_323 (lv_at hl 1 rfl) ?_
              refine lv_iadd hx hb dX10_ofThings_325 ?_
              refine lv_lload hx hb dX10_ofThings_326 (lv_at hl 2 rfl) ?_
              refine r_ast27N (n := (30 * tn) + jn) X hw hS (nadd (a := 30 * tn) (b := jn) (nmul (a := 30) (b := tn) rfl ((congrArg Int64.toInt32 htv).trans (lN_i tn))) hje) (by omega) dX10_ofThings_328 (fun H locs hw hS => ?_)
              obtain ⟨hV, hq_61⟩ := mvThing (t := tn) (j := jn) (v := r_49) hV (by omega) (fun _ => hv_49)
              generalize sJ y_51 27 (30 * tn + jn) r_49 = y_61 at hw hV hq_61
              have hmr := hmr.tr hq_61.1
              have hmo := hmo.tr hq_61.2.1
              refine lv_iconst (v := 0) hx hb dX10_ofThings_329 (by decide) ?_
              exact m_iret X hr hlk hw hS (Nat.zero_le _) (Nat.zero_le _) ⟨y_61, mk, rfl, rfl, hmr, hmo, hV.2.2.2.2.1, Or.inl ⟨rfl, hV⟩⟩ dX10_ofThings_330
            · skip
              have c_60 := bI_f c_60
              refine lv_iconst (v := 3) hx hb dX10_ofThings_312 (by decide) ?_
              exact m_iret X hr hlk hw hS (Nat.zero_le _) (Nat.zero_le _) ⟨y_51, mk, rfl, rfl, hmr, hmo, hV.2.2.2.2.1, Or.inr ⟨by decide, by decide, hlo⟩⟩ dX10_ofThings_313
        · skip
          have c_56 := bI_f c_56
          refine lv_iload hx hb dX10_ofThings_268 (lv_at hl 0 rfl) ?_
          refine lv_if_ge (tgt := 277) hx hb dX10_ofThings_270 (by decide) (fun c_62 => ?_) (fun c_62 => ?_)
          · skip
            have c_62n : tn ≥ 0 := ngeT (a := tn) (b := 0) ((congrArg Int64.toInt32 htv).trans (lN_i tn)) rfl (by omega) (by omega) c_62
            have c_62m : ¬ tn < 0 := by omega
            refine lv_iconst (v := 2) hx hb dX10_ofThings_277 (by decide) ?_
            exact m_iret X hr hlk hw hS (Nat.zero_le _) (Nat.zero_le _) ⟨y_51, mk, rfl, rfl, hmr, hmo, hV.2.2.2.2.1, Or.inr ⟨by decide, by decide, hlo⟩⟩ dX10_ofThings_278
          · skip
            have c_62n : ¬ tn ≥ 0 := ngeF (a := tn) (b := 0) ((congrArg Int64.toInt32 htv).trans (lN_i tn)) rfl (by omega) (by omega) c_62
            have c_62m : tn < 0 := by omega
            refine lv_iconst (v := 1) hx hb dX10_ofThings_273 (by decide) ?_
            refine lv_goto (tgt := 278) hx hb dX10_ofThings_274 (by decide) ?_
            exact m_iret X hr hlk hw hS (Nat.zero_le _) (Nat.zero_le _) ⟨y_51, mk, rfl, rfl, hmr, hmo, hV.2.2.2.2.1, Or.inr ⟨by decide, by decide, hlo⟩⟩ dX10_ofThings_278
    · have hoe : o = 21 := Int32.toInt_inj.mp c_1v
      refine lv_tableIn (off := 324) (tgt := 331) hx hb dX10_ofThings_7 (by omega) (by omega) (by rw [c_1v]; rfl) (by decide) ?_
      rw [hoe, op_21] at hop
      obtain ⟨hin, hop⟩ := iteE hop
      obtain ⟨w1, h1, hop⟩ := bindE hop
      have hcl := (show vle (vc 10) 4 = true by decide)
      have hv21 := mvTop7 hV h1
      have hVz : MV x f mk z := mvCast hV h1 hop (by rw [if_pos rfl, ob_4 hin]; exact hv21)
      refine lv_aload_n hx hb dX10_ofThings_331 rfl (lv_at hl 2 rfl) ?_
      refine r_get18 X hw dX10_ofThings_332 ?_
      refine lv_bipush (v := 16) hx hb dX10_ofThings_335 (by decide) ?_
      refine lv_aload_n hx hb dX10_ofThings_337 rfl (lv_at hl 2 rfl) ?_
      refine r_get22 X hw dX10_ofThings_338 ?_
      refine lv_imul hx hb dX10_ofThings_341 ?_
      refine lv_bipush (v := 7) hx hb dX10_ofThings_342 (by decide) ?_
      refine lv_iadd hx hb dX10_ofThings_344 ?_
      refine lv_aload_n hx hb dX10_ofThings_345 rfl (lv_at hl 2 rfl) ?_
      refine r_get19 X hw dX10_ofThings_346 ?_
      refine lv_aload_n hx hb dX10_ofThings_349 rfl (lv_at hl 2 rfl) ?_
      refine r_get22 X hw dX10_ofThings_350 ?_
      refine r_ald19N (n := f) X hw hf0 (by omega) dX10_ofThings_353 ?_
      refine lv_iadd hx hb dX10_ofThings_354 ?_
      refine r_ald18N (n := ((16 * f) + 7) + q.2) X hw (nadd (a := (16 * f) + 7) (b := q.2) (nadd (a := 16 * f) (b := 7) (nmul (a := 16) (b := f) rfl hf0) rfl) hV.2.2.1) (by omega) dX10_ofThings_355 ?_
      refine lv_l2i (v := (x.2.2 18 (((16 * f) + 7) + q.2)).toInt32) hx hb dX10_ofThings_356 rfl ?_
      refine lv_istore (lv' := [(4, .int ((x.2.2 18 (((16 * f) + 7) + q.2)).toInt32)), (5, .int 0), (0, .ref (L (.inl 0))), (1, .int o), (2, .long a)]) hx hb dX10_ofThings_357 hl (by decide) rfl (fun ls hl => ?_)
      refine lv_iload hx hb dX10_ofThings_359 (lv_at hl 0 rfl) ?_
      refine lv_if_lt (tgt := 379) hx hb dX10_ofThings_361 (by decide) (fun c_63 => ?_) (fun c_63 => ?_)
      · skip
        refine lv_iconst (v := 0) hx hb dX10_ofThings_379 (by decide) ?_
        exact m_iret X hr hlk hw hS (Nat.zero_le _) (Nat.zero_le _) ⟨x, mk, rfl, rfl, hmr, hmo, hV.2.2.2.2.1, Or.inl ⟨rfl, hVz⟩⟩ dX10_ofThings_380
      · skip
        obtain ⟨tn, htn, htv⟩ := refE hv21 hcl (vc_le _) c_63
        refine lv_aload_n hx hb dX10_ofThings_364 rfl (lv_at hl 2 rfl) ?_
        refine lv_iload hx hb dX10_ofThings_365 (lv_at hl 0 rfl) ?_
        refine lv_lload_n hx hb dX10_ofThings_367 rfl (lv_at hl 4 rfl) ?_
        refine lv_l2i (v := a.toInt32) hx hb dX10_ofThings_368 rfl ?_
        refine m_calli (m_runV (i := .inl 0) (ci := 8) (As := [.int ((x.2.2 18 (((16 * f) + 7) + q.2)).toInt32), .int a.toInt32]) (rest := []) X (k_X10_isOf Γ l L x ((x.2.2 18 (((16 * f) + 7) + q.2)).toInt32) a.toInt32 tn ((congrArg Int64.toInt32 htv).trans (lN_i tn)) (by omega)) v_X10_isOf ml_X10_311 hw hS rfl rfl rfl rfl hl.1 ⟨Nat.le_of_ble_eq_true rfl, Nat.le_of_ble_eq_true rfl⟩ (Nat.le_of_ble_eq_true rfl) ⟨Nat.le_of_ble_eq_true rfl, Nat.le_of_ble_eq_true rfl⟩ dX10_ofThings_369) hS (fun r_64 L1 M1 H locs hp_64 hw hS => ?_)
        obtain ⟨er_64, e1, e2⟩ := hp_64
        rw [e1, e2] at hw; clear e1 e2
        subst er_64
        refine lv_if_ne (tgt := 379) hx hb dX10_ofThings_372 (by decide) (fun c_65 => ?_) (fun c_65 => ?_)
        · skip
          have c_65 := bI_t c_65
          refine lv_iconst (v := 0) hx hb dX10_ofThings_379 (by decide) ?_
          exact m_iret X hr hlk hw hS (Nat.zero_le _) (Nat.zero_le _) ⟨x, mk, rfl, rfl, hmr, hmo, hV.2.2.2.2.1, Or.inl ⟨rfl, hVz⟩⟩ dX10_ofThings_380
        · skip
          have c_65 := bI_f c_65
          refine lv_iconst (v := 4) hx hb dX10_ofThings_375 (by decide) ?_
          refine lv_goto (tgt := 380) hx hb dX10_ofThings_376 (by decide) ?_
          exact m_iret X hr hlk hw hS (Nat.zero_le _) (Nat.zero_le _) ⟨x, mk, rfl, rfl, hmr, hmo, hV.2.2.2.2.1, Or.inr ⟨by decide, by decide, hlo⟩⟩ dX10_ofThings_380
    · have hoe : o = 22 := Int32.toInt_inj.mp c_1v
      refine lv_tableIn (off := 374) (tgt := 381) hx hb dX10_ofThings_7 (by omega) (by omega) (by rw [c_1v]; rfl) (by decide) ?_
      rw [hoe, op_22] at hop
      obtain ⟨hin, hop⟩ := iteE hop
      obtain ⟨w1, h1, hop⟩ := bindE hop
      have hcl := (show vle (vc 10) 4 = true by decide)
      refine lv_aload_n hx hb dX10_ofThings_381 rfl (lv_at hl 2 rfl) ?_
      have hpre_66 := mvTake hV h1
      refine m_calll (m_runV (i := .inl 0) (ci := 8) (As := []) (rest := []) X (k_X10_take Γ l L x f _ hV.1 hV.2.1 hV.2.2.1 hpre_66.1 hV.2.2.2.1) v_X10_take ml_X10_293 hw hS rfl rfl rfl rfl hl.1 ⟨Nat.le_of_ble_eq_true rfl, Nat.le_of_ble_eq_true rfl⟩ (Nat.le_of_ble_eq_true rfl) ⟨Nat.le_of_ble_eq_true rfl, Nat.le_of_ble_eq_true rfl⟩ dX10_ofThings_382) hS (fun r_66 L1 M1 H locs hp_66 hw hS => ?_)
      obtain ⟨er_66, e1, e2⟩ := hp_66
      rw [e1, e2] at hw; clear e1 e2
      obtain ⟨-, hv_66, hV, hq_66⟩ := hpre_66
      rw [← er_66] at hv_66
      clear er_66
      generalize sA x 19 f (nI (q.2 - 1)) = y_66 at hw hV hq_66
      have hmr := hmr.tr hq_66.1
      have hmo := hmo.tr hq_66.2.1
      have hlo : lo x y_66 f := fun p hp => (hq_66.2.2 p hp).trans (hlo p hp)
      have hv_66 := VT_mo hq_66.2.1.1 hq_66.2.1.2 hv_66
      refine lv_l2i (v := r_66.toInt32) hx hb dX10_ofThings_385 rfl ?_
      refine lv_istore (lv' := [(4, .int r_66.toInt32), (5, .int 0), (0, .ref (L (.inl 0))), (1, .int o), (2, .long a)]) hx hb dX10_ofThings_386 hl (by decide) rfl (fun ls hl => ?_)
      refine lv_aload_n hx hb dX10_ofThings_388 rfl (lv_at hl 2 rfl) ?_
      refine lv_iload hx hb dX10_ofThings_389 (lv_at hl 0 rfl) ?_
      refine lv_if_lt (tgt := 409) hx hb dX10_ofThings_391 (by decide) (fun c_67 => ?_) (fun c_67 => ?_)
      · skip
        refine lv_lconst (v := 0) hx hb dX10_ofThings_409 (by decide) ?_
        have hpre_68 := mvPut (v := 0) hV hop (trivial)
        refine m_callv (m_runV (i := .inl 0) (ci := 8) (As := [.long 0]) (rest := []) X (k_X10_put Γ l L y_66 0 f _ hV.1 hV.2.1 hV.2.2.1 hpre_68.1) v_X10_put ml_X10_238 hw hS rfl rfl rfl rfl hl.1 ⟨Nat.le_of_ble_eq_true rfl, Nat.le_of_ble_eq_true rfl⟩ (Nat.le_of_ble_eq_true rfl) ⟨Nat.le_of_ble_eq_true rfl, Nat.le_of_ble_eq_true rfl⟩ dX10_ofThings_410) hS (fun L1 M1 H locs hp_68 hw hS => ?_)
        obtain ⟨e1, e2⟩ := hp_68
        rw [e1, e2] at hw; clear e1 e2
        obtain ⟨-, hV, hq_68⟩ := hpre_68
        generalize r_put y_66 f w1.2 0 = y_68 at hw hV hq_68
        have hmr := hmr.tr hq_68.1
        have hmo := hmo.tr hq_68.2.1
        have hlo : lo x y_68 f := fun p hp => (hq_68.2.2 p hp).trans (hlo p hp)
        have hv_66 := VT_mo hq_68.2.1.1 hq_68.2.1.2 hv_66
        refine lv_iconst (v := 0) hx hb dX10_ofThings_413 (by decide) ?_
        exact m_iret X hr hlk hw hS (Nat.zero_le _) (Nat.zero_le _) ⟨y_68, mk, rfl, rfl, hmr, hmo, hV.2.2.2.2.1, Or.inl ⟨rfl, hV⟩⟩ dX10_ofThings_414
      · skip
        obtain ⟨tn, htn, htv⟩ := refE hv_66 hcl (vc_le _) c_67
        obtain ⟨zs, hz30, hzs, hth⟩ := hV.2.2.2.2.1.2.2 tn htn
        refine lv_aload_n hx hb dX10_ofThings_394 rfl (lv_at hl 2 rfl) ?_
        refine lv_iload hx hb dX10_ofThings_395 (lv_at hl 0 rfl) ?_
        refine lv_lload_n hx hb dX10_ofThings_397 rfl (lv_at hl 4 rfl) ?_
        refine lv_l2i (v := a.toInt32) hx hb dX10_ofThings_398 rfl ?_
        refine m_calli (m_runV (i := .inl 0) (ci := 8) (As := [.int r_66.toInt32, .int a.toInt32]) (rest := [.ref (L (.inl 0))]) X (k_X10_isOf Γ l L y_66 r_66.toInt32 a.toInt32 tn ((congrArg Int64.toInt32 htv).trans (lN_i tn)) (by omega)) v_X10_isOf ml_X10_311 hw hS rfl rfl rfl rfl hl.1 ⟨Nat.le_of_ble_eq_true rfl, Nat.le_of_ble_eq_true rfl⟩ (Nat.le_of_ble_eq_true rfl) ⟨Nat.le_of_ble_eq_true rfl, Nat.le_of_ble_eq_true rfl⟩ dX10_ofThings_399) hS (fun r_69 L1 M1 H locs hp_69 hw hS => ?_)
        obtain ⟨er_69, e1, e2⟩ := hp_69
        rw [e1, e2] at hw; clear e1 e2
        subst er_69
        refine lv_if_eq (tgt := 409) hx hb dX10_ofThings_402 (by decide) (fun c_70 => ?_) (fun c_70 => ?_)
        · skip
          have c_70 := bI_f c_70
          refine lv_lconst (v := 0) hx hb dX10_ofThings_409 (by decide) ?_
          have hpre_71 := mvPut (v := 0) hV hop (trivial)
          refine m_callv (m_runV (i := .inl 0) (ci := 8) (As := [.long 0]) (rest := []) X (k_X10_put Γ l L y_66 0 f _ hV.1 hV.2.1 hV.2.2.1 hpre_71.1) v_X10_put ml_X10_238 hw hS rfl rfl rfl rfl hl.1 ⟨Nat.le_of_ble_eq_true rfl, Nat.le_of_ble_eq_true rfl⟩ (Nat.le_of_ble_eq_true rfl) ⟨Nat.le_of_ble_eq_true rfl, Nat.le_of_ble_eq_true rfl⟩ dX10_ofThings_410) hS (fun L1 M1 H locs hp_71 hw hS => ?_)
          obtain ⟨e1, e2⟩ := hp_71
          rw [e1, e2] at hw; clear e1 e2
          obtain ⟨-, hV, hq_71⟩ := hpre_71
          generalize r_put y_66 f w1.2 0 = y_71 at hw hV hq_71
          have hmr := hmr.tr hq_71.1
          have hmo := hmo.tr hq_71.2.1
          have hlo : lo x y_71 f := fun p hp => (hq_71.2.2 p hp).trans (hlo p hp)
          have hv_66 := VT_mo hq_71.2.1.1 hq_71.2.1.2 hv_66
          refine lv_iconst (v := 0) hx hb dX10_ofThings_413 (by decide) ?_
          exact m_iret X hr hlk hw hS (Nat.zero_le _) (Nat.zero_le _) ⟨y_71, mk, rfl, rfl, hmr, hmo, hV.2.2.2.2.1, Or.inl ⟨rfl, hV⟩⟩ dX10_ofThings_414
        · skip
          have c_70 := bI_t c_70
          refine lv_lconst (v := 1) hx hb dX10_ofThings_405 (by decide) ?_
          refine lv_goto (tgt := 410) hx hb dX10_ofThings_406 (by decide) ?_
          have hpre_72 := mvPut (v := 1) hV hop (trivial)
          refine m_callv (m_runV (i := .inl 0) (ci := 8) (As := [.long 1]) (rest := []) X (k_X10_put Γ l L y_66 1 f _ hV.1 hV.2.1 hV.2.2.1 hpre_72.1) v_X10_put ml_X10_238 hw hS rfl rfl rfl rfl hl.1 ⟨Nat.le_of_ble_eq_true rfl, Nat.le_of_ble_eq_true rfl⟩ (Nat.le_of_ble_eq_true rfl) ⟨Nat.le_of_ble_eq_true rfl, Nat.le_of_ble_eq_true rfl⟩ dX10_ofThings_410) hS (fun L1 M1 H locs hp_72 hw hS => ?_)
          obtain ⟨e1, e2⟩ := hp_72
          rw [e1, e2] at hw; clear e1 e2
          obtain ⟨-, hV, hq_72⟩ := hpre_72
          generalize r_put y_66 f w1.2 1 = y_72 at hw hV hq_72
          have hmr := hmr.tr hq_72.1
          have hmo := hmo.tr hq_72.2.1
          have hlo : lo x y_72 f := fun p hp => (hq_72.2.2 p hp).trans (hlo p hp)
          have hv_66 := VT_mo hq_72.2.1.1 hq_72.2.1.2 hv_66
          refine lv_iconst (v := 0) hx hb dX10_ofThings_413 (by decide) ?_
          exact m_iret X hr hlk hw hS (Nat.zero_le _) (Nat.zero_le _) ⟨y_72, mk, rfl, rfl, hmr, hmo, hV.2.2.2.2.1, Or.inl ⟨rfl, hV⟩⟩ dX10_ofThings_414
    · have hoe : o = 23 := Int32.toInt_inj.mp c_1v
      refine lv_tableIn (off := 440) (tgt := 447) hx hb dX10_ofThings_7 (by omega) (by omega) (by rw [c_1v]; rfl) (by decide) ?_
      rw [hoe, op_23] at hop
      obtain ⟨w1, h1, hop⟩ := bindE hop
      have hcl := (show vle (vc 11) 4 = true by decide)
      refine lv_aload_n hx hb dX10_ofThings_447 rfl (lv_at hl 2 rfl) ?_
      have hpre_73 := mvTake hV h1
      refine m_calll (m_runV (i := .inl 0) (ci := 8) (As := []) (rest := []) X (k_X10_take Γ l L x f _ hV.1 hV.2.1 hV.2.2.1 hpre_73.1 hV.2.2.2.1) v_X10_take ml_X10_293 hw hS rfl rfl rfl rfl hl.1 ⟨Nat.le_of_ble_eq_true rfl, Nat.le_of_ble_eq_true rfl⟩ (Nat.le_of_ble_eq_true rfl) ⟨Nat.le_of_ble_eq_true rfl, Nat.le_of_ble_eq_true rfl⟩ dX10_ofThings_448) hS (fun r_73 L1 M1 H locs hp_73 hw hS => ?_)
      obtain ⟨er_73, e1, e2⟩ := hp_73
      rw [e1, e2] at hw; clear e1 e2
      obtain ⟨-, hv_73, hV, hq_73⟩ := hpre_73
      rw [← er_73] at hv_73
      clear er_73
      generalize sA x 19 f (nI (q.2 - 1)) = y_73 at hw hV hq_73
      have hmr := hmr.tr hq_73.1
      have hmo := hmo.tr hq_73.2.1
      have hlo : lo x y_73 f := fun p hp => (hq_73.2.2 p hp).trans (hlo p hp)
      have hv_73 := VT_mo hq_73.2.1.1 hq_73.2.1.2 hv_73
      refine lv_l2i (v := r_73.toInt32) hx hb dX10_ofThings_451 rfl ?_
      refine lv_istore (lv' := [(4, .int r_73.toInt32), (5, .int 0), (0, .ref (L (.inl 0))), (1, .int o), (2, .long a)]) hx hb dX10_ofThings_452 hl (by decide) rfl (fun ls hl => ?_)
      refine lv_iload hx hb dX10_ofThings_454 (lv_at hl 0 rfl) ?_
      refine lv_if_ge (tgt := 461) hx hb dX10_ofThings_456 (by decide) (fun c_74 => ?_) (fun c_74 => ?_)
      · skip
        obtain ⟨tn, htn, htv⟩ := refE hv_73 hcl (vc_le _) (Int32.not_lt.mpr c_74)
        obtain ⟨zs, hz30, hzs, hth⟩ := hV.2.2.2.2.1.2.2 tn htn
        refine lv_aload_n hx hb dX10_ofThings_461 rfl (lv_at hl 2 rfl) ?_
        refine lv_iload_n hx hb dX10_ofThings_462 rfl (lv_at hl 3 rfl) ?_
        refine lv_bipush (v := 23) hx hb dX10_ofThings_463 (by decide) ?_
        refine lv_icmp_ne (tgt := 479) hx hb dX10_ofThings_465 (by decide) (fun c => absurd hoe c) (fun _ => ?_)
        refine lv_aload_n hx hb dX10_ofThings_468 rfl (lv_at hl 2 rfl) ?_
        refine r_get26 X hw dX10_ofThings_469 ?_
        refine lv_iload hx hb dX10_ofThings_472 (lv_at hl 0 rfl) ?_
        refine r_ald26N (n := tn) X hw ((congrArg Int64.toInt32 htv).trans (lN_i tn)) (by omega) dX10_ofThings_474 ?_
        refine lv_i2l (v := (y_73.2.1 26 tn).toInt64) hx hb dX10_ofThings_475 rfl ?_
        refine lv_goto (tgt := 486) hx hb dX10_ofThings_476 (by decide) ?_
        have hpre_75 := mvPut (v := (y_73.2.1 26 tn).toInt64) hV hop (trivial)
        refine m_callv (m_runV (i := .inl 0) (ci := 8) (As := [.long ((y_73.2.1 26 tn).toInt64)]) (rest := []) X (k_X10_put Γ l L y_73 ((y_73.2.1 26 tn).toInt64) f _ hV.1 hV.2.1 hV.2.2.1 hpre_75.1) v_X10_put ml_X10_238 hw hS rfl rfl rfl rfl hl.1 ⟨Nat.le_of_ble_eq_true rfl, Nat.le_of_ble_eq_true rfl⟩ (Nat.le_of_ble_eq_true rfl) ⟨Nat.le_of_ble_eq_true rfl, Nat.le_of_ble_eq_true rfl⟩ dX10_ofThings_486) hS (fun L1 M1 H locs hp_75 hw hS => ?_)
        obtain ⟨e1, e2⟩ := hp_75
        rw [e1, e2] at hw; clear e1 e2
        obtain ⟨-, hV, hq_75⟩ := hpre_75
        generalize r_put y_73 f w1.2 ((y_73.2.1 26 tn).toInt64) = y_75 at hw hV hq_75
        have hmr := hmr.tr hq_75.1
        have hmo := hmo.tr hq_75.2.1
        have hlo : lo x y_75 f := fun p hp => (hq_75.2.2 p hp).trans (hlo p hp)
        have hv_73 := VT_mo hq_75.2.1.1 hq_75.2.1.2 hv_73
        refine lv_iconst (v := 0) hx hb dX10_ofThings_489 (by decide) ?_
        exact m_iret X hr hlk hw hS (Nat.zero_le _) (Nat.zero_le _) ⟨y_75, mk, rfl, rfl, hmr, hmo, hV.2.2.2.2.1, Or.inl ⟨rfl, hV⟩⟩ dX10_ofThings_490
      · skip
        refine lv_iconst (v := 1) hx hb dX10_ofThings_459 (by decide) ?_
        exact m_iret X hr hlk hw hS (Nat.zero_le _) (Nat.zero_le _) ⟨y_73, mk, rfl, rfl, hmr, hmo, hV.2.2.2.2.1, Or.inr ⟨by decide, by decide, hlo⟩⟩ dX10_ofThings_460
    · have hoe : o = 24 := Int32.toInt_inj.mp c_1v
      refine lv_tableIn (off := 408) (tgt := 415) hx hb dX10_ofThings_7 (by omega) (by omega) (by rw [c_1v]; rfl) (by decide) ?_
      rw [hoe, op_24] at hop
      obtain ⟨w1, h1, hop⟩ := bindE hop
      have hcl := (show vle (vc 11) 4 = true by decide)
      refine lv_aload_n hx hb dX10_ofThings_415 rfl (lv_at hl 2 rfl) ?_
      have hpre_76 := mvTake hV h1
      refine m_calll (m_runV (i := .inl 0) (ci := 8) (As := []) (rest := []) X (k_X10_take Γ l L x f _ hV.1 hV.2.1 hV.2.2.1 hpre_76.1 hV.2.2.2.1) v_X10_take ml_X10_293 hw hS rfl rfl rfl rfl hl.1 ⟨Nat.le_of_ble_eq_true rfl, Nat.le_of_ble_eq_true rfl⟩ (Nat.le_of_ble_eq_true rfl) ⟨Nat.le_of_ble_eq_true rfl, Nat.le_of_ble_eq_true rfl⟩ dX10_ofThings_416) hS (fun r_76 L1 M1 H locs hp_76 hw hS => ?_)
      obtain ⟨er_76, e1, e2⟩ := hp_76
      rw [e1, e2] at hw; clear e1 e2
      obtain ⟨-, hv_76, hV, hq_76⟩ := hpre_76
      rw [← er_76] at hv_76
      clear er_76
      generalize sA x 19 f (nI (q.2 - 1)) = y_76 at hw hV hq_76
      have hmr := hmr.tr hq_76.1
      have hmo := hmo.tr hq_76.2.1
      have hlo : lo x y_76 f := fun p hp => (hq_76.2.2 p hp).trans (hlo p hp)
      have hv_76 := VT_mo hq_76.2.1.1 hq_76.2.1.2 hv_76
      refine lv_l2i (v := r_76.toInt32) hx hb dX10_ofThings_419 rfl ?_
      refine lv_istore (lv' := [(5, .int r_76.toInt32), (4, .int 0), (0, .ref (L (.inl 0))), (1, .int o), (2, .long a)]) hx hb dX10_ofThings_420 hl (by decide) rfl (fun ls hl => ?_)
      refine lv_aload_n hx hb dX10_ofThings_422 rfl (lv_at hl 2 rfl) ?_
      have hpre_77 := mvTake hV hop
      refine m_calll (m_runV (i := .inl 0) (ci := 8) (As := []) (rest := []) X (k_X10_take Γ l L y_76 f _ hV.1 hV.2.1 hV.2.2.1 hpre_77.1 hV.2.2.2.1) v_X10_take ml_X10_293 hw hS rfl rfl rfl rfl hl.1 ⟨Nat.le_of_ble_eq_true rfl, Nat.le_of_ble_eq_true rfl⟩ (Nat.le_of_ble_eq_true rfl) ⟨Nat.le_of_ble_eq_true rfl, Nat.le_of_ble_eq_true rfl⟩ dX10_ofThings_423) hS (fun r_77 L1 M1 H locs hp_77 hw hS => ?_)
      obtain ⟨er_77, e1, e2⟩ := hp_77
      rw [e1, e2] at hw; clear e1 e2
      obtain ⟨-, hv_77, hV, hq_77⟩ := hpre_77
      rw [← er_77] at hv_77
      clear er_77
      generalize sA y_76 19 f (nI (w1.2 - 1)) = y_77 at hw hV hq_77
      have hmr := hmr.tr hq_77.1
      have hmo := hmo.tr hq_77.2.1
      have hlo : lo x y_77 f := fun p hp => (hq_77.2.2 p hp).trans (hlo p hp)
      have hv_76 := VT_mo hq_77.2.1.1 hq_77.2.1.2 hv_76
      have hv_77 := VT_mo hq_77.2.1.1 hq_77.2.1.2 hv_77
      refine lv_l2i (v := r_77.toInt32) hx hb dX10_ofThings_426 rfl ?_
      refine lv_istore (lv' := [(4, .int r_77.toInt32), (5, .int r_76.toInt32), (0, .ref (L (.inl 0))), (1, .int o), (2, .long a)]) hx hb dX10_ofThings_427 hl (by decide) rfl (fun ls hl => ?_)
      refine lv_iload hx hb dX10_ofThings_429 (lv_at hl 0 rfl) ?_
      refine lv_if_ge (tgt := 436) hx hb dX10_ofThings_431 (by decide) (fun c_78 => ?_) (fun c_78 => ?_)
      · skip
        obtain ⟨tn, htn, htv⟩ := refE hv_77 hcl (vc_le _) (Int32.not_lt.mpr c_78)
        obtain ⟨zs, hz30, hzs, hth⟩ := hV.2.2.2.2.1.2.2 tn htn
        refine lv_aload_n hx hb dX10_ofThings_436 rfl (lv_at hl 2 rfl) ?_
        refine r_get26 X hw dX10_ofThings_437 ?_
        refine lv_iload hx hb dX10_ofThings_440 (lv_at hl 0 rfl) ?_
        refine lv_iload hx hb dX10_ofThings_442 (lv_at hl 1 rfl) ?_
        refine r_ast26N (n := tn) X hw hS ((congrArg Int64.toInt32 htv).trans (lN_i tn)) (by omega) dX10_ofThings_444 (fun H locs hw hS => ?_)
        obtain ⟨hV, hq_79⟩ := mvField (t := tn) (v := r_76.toInt32) hV
        generalize sA y_77 26 tn r_76.toInt32 = y_79 at hw hV hq_79
        have hmr := hmr.tr hq_79.1
        have hmo := hmo.tr hq_79.2.1
        refine lv_iconst (v := 0) hx hb dX10_ofThings_445 (by decide) ?_
        exact m_iret X hr hlk hw hS (Nat.zero_le _) (Nat.zero_le _) ⟨y_79, mk, rfl, rfl, hmr, hmo, hV.2.2.2.2.1, Or.inl ⟨rfl, hV⟩⟩ dX10_ofThings_446
      · skip
        refine lv_iconst (v := 1) hx hb dX10_ofThings_434 (by decide) ?_
        exact m_iret X hr hlk hw hS (Nat.zero_le _) (Nat.zero_le _) ⟨y_77, mk, rfl, rfl, hmr, hmo, hV.2.2.2.2.1, Or.inr ⟨by decide, by decide, hlo⟩⟩ dX10_ofThings_435
