/-! THE CLASS'S CONSTRUCTORS -/
/-- what is ahead: the first t Places made -/
def aIn (Γ : mG) (L : mI → Nat) (M : mM) (g : Nat → Option Nat) (t : Nat) : Prop := ∀ i, i < t → g i = some (L (nm 1 (2 * i))) ∧ mget M (nm 1 (2 * i)) = some (.inr (4, [.ref (L (nm 1 (2 * i + 1))), .int (-1)])) ∧ mget M (nm 1 (2 * i + 1)) = some (.inl (Γ.2.1 0, 16, .inl (fun _ => 0)))
def aOK (Γ : mG) (L : mI → Nat) (M : mM) : Prop := ∃ g : Nat → Option Nat, mget M (nm 0 4) = some (.inl (Γ.2.1 4, 40, .inr (.inr (.inr (.inr g))))) ∧ aIn Γ L M g 40
theorem aIn.zero {Γ : mG} {L : mI → Nat} {M : mM} {g : Nat → Option Nat} : aIn Γ L M g 0 := fun i hi => absurd hi (Nat.not_lt_zero i)
theorem inN_one {a b c d : Nat} (h : ¬ (c = a ∧ d = b)) : inN [(a, b)] [] (nm c d) = false := by
  simp [inN]
  exact fun e1 e2 => h ⟨e1, e2⟩
theorem vp_inN {j : Int32} {t n : Nat} (hj : j = nI t) (ht : t < n) (hn : n < 2 ^ 31) : vp_in j n := by
  subst hj
  unfold vp_in
  rw [nI_clamp (by omega)]
  rintro (h | h)
  · have h0 := Int32.lt_iff_toInt_lt.mp h
    rw [nI_toInt (by omega)] at h0
    have e0 : (0 : Int32).toInt = 0 := by decide
    omega
  · omega
theorem aIn.step {Γ : mG} {L L1 L2 : mI → Nat} {M M1 M2 M3 : mM} {g : Nat → Option Nat} {t q : Nat} {j : Int32} {e1 e2 : va_E} (h : aIn Γ L M g t) (hcl : j.toNatClampNeg = t) (hL : ∀ x, x ≠ nm 1 (2 * t) → L1 x = L x) (u : mUp M (nm 1 (2 * t)) e1 M1) (k : cP L1 M1 L2 M2 (inN [(1, 2 * t + 1)] []) (inN [(1, 2 * t)] [])) (hq : L1 (nm 1 (2 * t)) = q) (c1 : mget M3 (nm 1 (2 * t)) = some (.inr (4, [.ref (L2 (nm 1 (2 * t + 1))), .int (-1)]))) (c2 : mget M3 (nm 1 (2 * t + 1)) = some (.inl (Γ.2.1 0, 16, .inl (fun _ => 0)))) (w : mUp M2 (nm 0 4) e2 M3) : aIn Γ L2 M3 (va_up g j.toNatClampNeg (some q)) (t + 1) := by
  intro i hi
  rw [hcl]
  by_cases hit : i = t
  · subst hit
    refine ⟨?_, c1, c2⟩
    rw [k.1 _ (inN_one (by omega)), hq]
    simp [va_up]
  · obtain ⟨a1, a2, a3⟩ := h i (by omega)
    have l0 : L2 (nm 1 (2 * i)) = L (nm 1 (2 * i)) := (k.1 _ (inN_one (by omega))).trans (hL _ (nm_ne2 (by omega)))
    have l1 : L2 (nm 1 (2 * i + 1)) = L (nm 1 (2 * i + 1)) := (k.1 _ (inN_one (by omega))).trans (hL _ (nm_ne2 (by omega)))
    refine ⟨?_, ?_, ?_⟩
    · rw [l0, ← a1]; simp [va_up, hit]
    · rw [l1, w.2.1 _ (nm_ne1 (by decide)), k.2.1 _ (inN_one (by omega)) (inN_one (by omega)), u.2.1 _ (nm_ne2 (by omega))]; exact a2
    · rw [w.2.1 _ (nm_ne1 (by decide)), k.2.1 _ (inN_one (by omega)) (inN_one (by omega)), u.2.1 _ (nm_ne2 (by omega))]; exact a3
theorem inN_row {ns : List (Nat × Nat)} {a b : Nat} (h : ns.all (fun x => x.1 != a) = true) : inN ns [] (nm a b) = false := by
  show (false || ns.contains (a, b)) = false
  rw [Bool.false_or]
  cases e : ns.contains (a, b) with
  | false => rfl
  | true =>
    have := List.all_eq_true.mp h (a, b) (List.contains_iff_mem.mp e)
    simp at this
theorem aOK.keep {Γ : mG} {L L1 : mI → Nat} {M M1 : mM} {ns cs : List (Nat × Nat)} (h : aOK Γ L M) (k : cP L M L1 M1 (inN ns []) (inN cs [])) (h1 : ns.all (fun x => x.1 != 1) = true := by decide) (h2 : cs.all (fun x => x.1 != 1) = true := by decide) (h3 : inN ns [] (nm 0 4) = false := by rfl) (h4 : inN cs [] (nm 0 4) = false := by rfl) : aOK Γ L1 M1 := by
  obtain ⟨g, a0, a⟩ := h
  refine ⟨g, (k.2.1 _ h3 h4).trans a0, fun i hi => ?_⟩
  obtain ⟨a1, a2, a3⟩ := a i hi
  refine ⟨by rw [k.1 _ (inN_row h1)]; exact a1, ?_, ?_⟩
  · rw [k.1 _ (inN_row h1), k.2.1 _ (inN_row h1) (inN_row h2)]; exact a2
  · rw [k.2.1 _ (inN_row h1) (inN_row h2)]; exact a3
theorem dvX0 : ∀ j, j < 12 → defaultValue (tyX0 j) = vp_V [.int 0, .int 0, .null, .null, .int 0, .null, .null, .null, .null, .int 0, .null, .int 0] j := by
  intro j hj
  rcases (show j = 0 ∨ j = 1 ∨ j = 2 ∨ j = 3 ∨ j = 4 ∨ j = 5 ∨ j = 6 ∨ j = 7 ∨ j = 8 ∨ j = 9 ∨ j = 10 ∨ j = 11 by omega) with rfl | rfl | rfl | rfl | rfl | rfl | rfl | rfl | rfl | rfl | rfl | rfl <;> rfl
theorem dvX1 : ∀ j, j < 5 → defaultValue (tyX1 j) = vp_V [.null, .null, .null, .null, .int 0] j := by
  intro j hj
  rcases (show j = 0 ∨ j = 1 ∨ j = 2 ∨ j = 3 ∨ j = 4 by omega) with rfl | rfl | rfl | rfl | rfl <;> rfl
theorem dvX2 : ∀ j, j < 6 → defaultValue (tyX2 j) = vp_V [.null, .null, .null, .int 0, .int 0, .int 0] j := by
  intro j hj
  rcases (show j = 0 ∨ j = 1 ∨ j = 2 ∨ j = 3 ∨ j = 4 ∨ j = 5 by omega) with rfl | rfl | rfl | rfl | rfl | rfl <;> rfl
theorem dvX4 : ∀ j, j < 14 → defaultValue (tyX4 j) = vp_V [.null, .null, .null, .null, .null, .null, .int 0, .int 0, .int 0, .int 0, .int 0, .int 0, .int 0, .int 0] j := by
  intro j hj
  rcases (show j = 0 ∨ j = 1 ∨ j = 2 ∨ j = 3 ∨ j = 4 ∨ j = 5 ∨ j = 6 ∨ j = 7 ∨ j = 8 ∨ j = 9 ∨ j = 10 ∨ j = 11 ∨ j = 12 ∨ j = 13 by omega) with rfl | rfl | rfl | rfl | rfl | rfl | rfl | rfl | rfl | rfl | rfl | rfl | rfl | rfl <;> rfl
theorem dvX6 : ∀ j, j < 2 → defaultValue (tyX6 j) = vp_V [.null, .int 0] j := by
  intro j hj
  rcases (show j = 0 ∨ j = 1 by omega) with rfl | rfl <;> rfl
theorem dvX7 : ∀ j, j < 2 → defaultValue (tyX7 j) = vp_V [.null, .int 0] j := by
  intro j hj
  rcases (show j = 0 ∨ j = 1 by omega) with rfl | rfl <;> rfl
theorem dvX8 : ∀ j, j < 3 → defaultValue (tyX8 j) = vp_V [.null, .int 0, .int 0] j := by
  intro j hj
  rcases (show j = 0 ∨ j = 1 ∨ j = 2 by omega) with rfl | rfl | rfl <;> rfl
theorem dvX9 : ∀ j, j < 3 → defaultValue (tyX9 j) = vp_V [.null, .null, .null] j := by
  intro j hj
  rcases (show j = 0 ∨ j = 1 ∨ j = 2 by omega) with rfl | rfl | rfl <;> rfl
theorem dvX10 : ∀ j, j < 35 → defaultValue (tyX10 j) = vp_V [.int 0, .null, .null, .null, .null, .null, .null, .null, .null, .null, .int 0, .null, .null, .int 0, .null, .int 0, .int 0, .null, .null, .null, .null, .null, .int 0, .int 0, .null, .null, .null, .null, .int 0, .int 0, .int 0, .int 0, .int 0, .int 0, .int 0] j := by
  intro j hj
  rcases (show j = 0 ∨ j = 1 ∨ j = 2 ∨ j = 3 ∨ j = 4 ∨ j = 5 ∨ j = 6 ∨ j = 7 ∨ j = 8 ∨ j = 9 ∨ j = 10 ∨ j = 11 ∨ j = 12 ∨ j = 13 ∨ j = 14 ∨ j = 15 ∨ j = 16 ∨ j = 17 ∨ j = 18 ∨ j = 19 ∨ j = 20 ∨ j = 21 ∨ j = 22 ∨ j = 23 ∨ j = 24 ∨ j = 25 ∨ j = 26 ∨ j = 27 ∨ j = 28 ∨ j = 29 ∨ j = 30 ∨ j = 31 ∨ j = 32 ∨ j = 33 ∨ j = 34 by omega) with rfl | rfl | rfl | rfl | rfl | rfl | rfl | rfl | rfl | rfl | rfl | rfl | rfl | rfl | rfl | rfl | rfl | rfl | rfl | rfl | rfl | rfl | rfl | rfl | rfl | rfl | rfl | rfl | rfl | rfl | rfl | rfl | rfl | rfl | rfl <;> rfl
theorem nest_X9_9 : (RX9, 9, yX7_init, "KindJudge") ∈ mNest := List.mem_of_getElem? (i := 0) rfl
theorem nest_X2_19 : (RX2, 19, yX6_init, "KindJudge") ∈ mNest := List.mem_of_getElem? (i := 1) rfl
theorem nest_X2_26 : (RX2, 26, yX8_init, "KindJudge") ∈ mNest := List.mem_of_getElem? (i := 2) rfl
theorem nest_X8_9 : (RX8, 9, yX6_init, "KindJudge") ∈ mNest := List.mem_of_getElem? (i := 3) rfl
theorem nest_X9_25 : (RX9, 25, yX4_init, "KindJudge") ∈ mNest := List.mem_of_getElem? (i := 4) rfl
theorem nest_X4_13 : (RX4, 13, yX1_init, "KindJudge") ∈ mNest := List.mem_of_getElem? (i := 5) rfl
theorem nest_X0_54 : (RX0, 54, yX6_init, "KindJudge") ∈ mNest := List.mem_of_getElem? (i := 6) rfl
theorem i_X6_init : mIm yX6_init cX6_init 1 0 := ⟨cd_X6_init, im_X6_init, ini_X6, rfl, by decide, by decide, by decide +kernel⟩
set_option maxHeartbeats 4000000 in
set_option maxRecDepth 100000 in
theorem k_X6_init (Γ : mG) (l : Launch) (L : mI → Nat) (M : mM) (a b : Nat)  (r0 : Nat) (ha_s : L (nm a b) = r0) (hc_s : mget M (nm a b) = some (.inr (4, [.null, .int 0]))) (hM : 0 < M.2.length)  : mMet Γ l yX6_init cX6_init 1 none { frames := 1, cells := 1, slots := 16, locals := 12 } [.ref r0] L M (mQv Γ (fun L1 M1 => cP L M L1 M1 (inN [(a, b + 1)] []) (inN [(a, b)] []) ∧ mget M1 (nm a b) = some (.inr (4, [.ref (L1 (nm a (b + 1))), .int (-1)])) ∧ mget M1 (nm a (b + 1)) = some (.inl (Γ.2.1 0, 16, .inl (fun _ => 0))))) := by
  refine m_start (by decide) (Nat.le_of_ble_eq_true rfl) ?_
  intro p e s m args below meth c A ls X hr hlk hnm hw hS hl
  have hx := X.1.1
  have hb := X.1.2.1
  have hP : cP L M L M (inN [(a, b + 1)] []) (inN [(a, b)] []) := cP.rf
  have hc_nm_a_b := hc_s
  have hl : lv_has ls 1 [(0, .ref r0)] := hl
  refine lv_aload_n hx hb dX6_init_0 rfl (lv_at hl 0 rfl) ?_
  refine c_objInit X ml_X6_1 hl.1 dX6_init_1 (Nat.le_of_ble_eq_true rfl) (Nat.le_of_ble_eq_true rfl) ?_
  refine lv_aload_n hx hb dX6_init_4 rfl (lv_at hl 0 rfl) ?_
  refine lv_bipush (v := 16) hx hb dX6_init_5 (by decide) ?_
  refine c_newi (N' := 16) X hw hS hM a (b + 1) (by decide) (by decide) (Nat.le_of_ble_eq_true rfl) (Nat.le_of_ble_eq_true rfl) (Nat.le_of_ble_eq_true rfl) dX6_init_7 (fun q_1 L_1 M_1 H hq_1 hL_1 u_1 hw hS => ?_)
  have hc_nm_a_b_1 := u_1.1
  have ha_nm_a_b_1 := hq_1
  have hc_nm_a_b := (u_1.2.1 (nm a b) (nm_ne2 (by omega))).trans hc_nm_a_b
  have ha_nm_a_b : _ = r0 := (hL_1 (nm a b) (nm_ne2 (by omega))).trans ha_s
  have hM := u_1.2.2 hM
  have hP := hP.new u_1 hL_1 (by first | rfl | simp [inN])
  refine c_putF (i := nm a b) (ty := tyX6 0) (fs1 := [.ref q_1, .int 0]) X hw hS ha_nm_a_b hc_nm_a_b rfl gX6 tyX6 tyX6_ok nmX6 0 (by decide) fl_X6_9 rfl rfl hnm rfl (tyX6_ok 0 (by decide)) rfl rfl (show 0 < 2 by decide) rfl dX6_init_9 (fun M_2 H locs u_2 hw hS => ?_)
  have hc_nm_a_b := u_2.1
  have hc_nm_a_b_1 := (u_2.2.1 (nm a (b + 1)) (nm_ne2 (by omega))).trans hc_nm_a_b_1
  have hM := u_2.2.2 hM
  have hP := hP.up u_2 (by first | rfl | simp [inN])
  refine lv_aload_n hx hb dX6_init_12 rfl (lv_at hl 0 rfl) ?_
  refine lv_iconst (v := (-1)) hx hb dX6_init_13 (by decide) ?_
  refine c_put (i := nm a b) (ty := tyX6 1) (fs1 := [.ref q_1, .int (-1)]) X hw hS ha_nm_a_b hc_nm_a_b rfl gX6 tyX6 tyX6_ok nmX6 1 (by decide) fl_X6_13 rfl rfl (tyX6_ok 1 (by decide)) rfl rfl (show 1 < 2 by decide) rfl dX6_init_14 (fun M_3 H locs u_3 hw hS => ?_)
  have hc_nm_a_b := u_3.1
  have hc_nm_a_b_1 := (u_3.2.1 (nm a (b + 1)) (nm_ne2 (by omega))).trans hc_nm_a_b_1
  have hM := u_3.2.2 hM
  have hP := hP.up u_3 (by first | rfl | simp [inN])
  exact m_vret X hr hlk hw hS (Nat.le_of_ble_eq_true rfl) (Nat.le_of_ble_eq_true rfl) ⟨hP, by rw [ha_nm_a_b_1]; exact hc_nm_a_b, by exact hc_nm_a_b_1⟩ dX6_init_17
theorem i_X8_init : mIm yX8_init cX8_init 1 0 := ⟨cd_X8_init, im_X8_init, ini_X8, rfl, by decide, by decide, by decide +kernel⟩
set_option maxHeartbeats 4000000 in
set_option maxRecDepth 100000 in
theorem k_X8_init (Γ : mG) (l : Launch) (L : mI → Nat) (M : mM)   (r0 : Nat) (ha_s : L (nm 0 7) = r0) (hc_s : mget M (nm 0 7) = some (.inr (6, [.null, .int 0, .int 0]))) (hM : 0 < M.2.length)  : mMet Γ l yX8_init cX8_init 1 none { frames := 2, cells := 2, slots := 18, locals := 32 } [.ref r0] L M (mQv Γ (fun L1 M1 => cP L M L1 M1 (inN [(0, 8), (0, 9)] []) (inN [(0, 7)] []) ∧ mget M1 (nm 0 7) = some (.inr (6, [.ref (L1 (nm 0 8)), .int 0, .int 0])) ∧ mget M1 (nm 0 8) = some (.inr (4, [.ref (L1 (nm 0 9)), .int (-1)])) ∧ mget M1 (nm 0 9) = some (.inl (Γ.2.1 0, 16, .inl (fun _ => 0))))) := by
  refine m_start (by decide) (Nat.le_of_ble_eq_true rfl) ?_
  intro p e s m args below meth c A ls X hr hlk hnm hw hS hl
  have hx := X.1.1
  have hb := X.1.2.1
  have hP : cP L M L M (inN [(0, 8), (0, 9)] []) (inN [(0, 7)] []) := cP.rf
  have hc_nm_0_7 := hc_s
  have hl : lv_has ls 1 [(0, .ref r0)] := hl
  refine lv_aload_n hx hb dX8_init_0 rfl (lv_at hl 0 rfl) ?_
  refine c_objInit X ml_X8_1 hl.1 dX8_init_1 (Nat.le_of_ble_eq_true rfl) (Nat.le_of_ble_eq_true rfl) ?_
  refine lv_aload_n hx hb dX8_init_4 rfl (lv_at hl 0 rfl) ?_
  refine c_new (ci := 4) (fs := [.null, .int 0]) X hw hS hM 0 8 rfl gX6 tyX6 tyX6_ok cl_X8_7 ins_X6 ini_X6 dvX6 (Nat.le_of_ble_eq_true rfl) (Nat.le_of_ble_eq_true rfl) dX8_init_5 (fun q_1 L_1 M_1 H hq_1 hL_1 u_1 hw hS => ?_)
  have hc_nm_0_8 := u_1.1
  have ha_nm_0_8 := hq_1
  have hc_nm_0_7 := (u_1.2.1 (nm 0 7) (nm_ne2 (by omega))).trans hc_nm_0_7
  have ha_nm_0_7 : _ = r0 := (hL_1 (nm 0 7) (nm_ne2 (by omega))).trans ha_s
  have hM := u_1.2.2 hM
  have hP := hP.new u_1 hL_1 (by first | rfl | simp [inN])
  refine lv_dup hx hb dX8_init_8 rfl ?_
  refine m_callv (m_runIN (host := "KindJudge") (As := []) (rest := [.ref q_1, .ref r0]) X (k_X6_init Γ l L_1 M_1 0 8 q_1 ha_nm_0_8 hc_nm_0_8 hM) i_X6_init nest_X8_9 hw hS rfl hl.1 ⟨Nat.le_of_ble_eq_true rfl, Nat.le_of_ble_eq_true rfl⟩ (Nat.le_of_ble_eq_true rfl) ⟨Nat.le_of_ble_eq_true rfl, Nat.le_of_ble_eq_true rfl⟩ dX8_init_9) hS (fun L_2 M_2 H locs hp_2 hw hS => ?_)
  obtain ⟨k_2, hc_nm_0_8, hc_nm_0_9⟩ := hp_2
  have ha_nm_0_7 : _ = r0 := (k_2.1 (nm 0 7) (by first | rfl | exact inN_one (by omega))).trans ha_nm_0_7
  have ha_nm_0_8 : _ = q_1 := (k_2.1 (nm 0 8) (by first | rfl | exact inN_one (by omega))).trans ha_nm_0_8
  have hc_nm_0_7 := (k_2.2.1 (nm 0 7) (by first | rfl | exact inN_one (by omega)) (by first | rfl | exact inN_one (by omega))).trans hc_nm_0_7
  have hM := k_2.2.2 hM
  have hP := hP.call k_2 (fun _ h => inN_sub rfl rfl h) (fun _ h g => by first | exact inN_sub rfl rfl g | exact inN_sub rfl rfl h)
  refine c_putF (i := nm 0 7) (ty := tyX8 0) (fs1 := [.ref q_1, .int 0, .int 0]) X hw hS ha_nm_0_7 hc_nm_0_7 rfl gX8 tyX8 tyX8_ok nmX8 0 (by decide) fl_X8_10 rfl rfl hnm rfl (tyX8_ok 0 (by decide)) rfl rfl (show 0 < 3 by decide) rfl dX8_init_12 (fun M_3 H locs u_3 hw hS => ?_)
  have hc_nm_0_7 := u_3.1
  have hc_nm_0_8 := (u_3.2.1 (nm 0 8) (nm_ne2 (by omega))).trans hc_nm_0_8
  have hc_nm_0_9 := (u_3.2.1 (nm 0 9) (nm_ne2 (by omega))).trans hc_nm_0_9
  have hM := u_3.2.2 hM
  have hP := hP.up u_3 (by first | rfl | simp [inN])
  exact m_vret X hr hlk hw hS (Nat.le_of_ble_eq_true rfl) (Nat.le_of_ble_eq_true rfl) ⟨hP, by rw [ha_nm_0_8]; exact hc_nm_0_7, by exact hc_nm_0_8, by exact hc_nm_0_9⟩ dX8_init_15
theorem i_X7_init : mIm yX7_init cX7_init 1 0 := ⟨cd_X7_init, im_X7_init, ini_X7, rfl, by decide, by decide, by decide +kernel⟩
set_option maxHeartbeats 4000000 in
set_option maxRecDepth 100000 in
theorem k_X7_init (Γ : mG) (l : Launch) (L : mI → Nat) (M : mM)   (r0 : Nat) (ha_s : L (nm 0 1) = r0) (hc_s : mget M (nm 0 1) = some (.inr (5, [.null, .int 0]))) (hM : 0 < M.2.length)  : mMet Γ l yX7_init cX7_init 1 none { frames := 1, cells := 1, slots := 8, locals := 12 } [.ref r0] L M (mQv Γ (fun L1 M1 => cP L M L1 M1 (inN [(0, 2)] []) (inN [(0, 1)] []) ∧ mget M1 (nm 0 1) = some (.inr (5, [.ref (L1 (nm 0 2)), .int 0])) ∧ mget M1 (nm 0 2) = some (.inl (Γ.2.1 3, 8, .inr (.inr (.inr (.inr (fun _ => none)))))))) := by
  refine m_start (by decide) (Nat.le_of_ble_eq_true rfl) ?_
  intro p e s m args below meth c A ls X hr hlk hnm hw hS hl
  have hx := X.1.1
  have hb := X.1.2.1
  have hP : cP L M L M (inN [(0, 2)] []) (inN [(0, 1)] []) := cP.rf
  have hc_nm_0_1 := hc_s
  have hl : lv_has ls 1 [(0, .ref r0)] := hl
  refine lv_aload_n hx hb dX7_init_0 rfl (lv_at hl 0 rfl) ?_
  refine c_objInit X ml_X7_3 hl.1 dX7_init_1 (Nat.le_of_ble_eq_true rfl) (Nat.le_of_ble_eq_true rfl) ?_
  refine lv_aload_n hx hb dX7_init_4 rfl (lv_at hl 0 rfl) ?_
  refine lv_bipush (v := 8) hx hb dX7_init_5 (by decide) ?_
  refine c_newq (t := 3) (N' := 8) X hw hS hM 0 2 rfl cl_X7_11 X.2.1.2.2.1 (by decide) (by decide) (Nat.le_of_ble_eq_true rfl) (Nat.le_of_ble_eq_true rfl) (Nat.le_of_ble_eq_true rfl) dX7_init_7 (fun q_1 L_1 M_1 H hq_1 hL_1 u_1 hw hS => ?_)
  have hc_nm_0_2 := u_1.1
  have ha_nm_0_2 := hq_1
  have hc_nm_0_1 := (u_1.2.1 (nm 0 1) (nm_ne2 (by omega))).trans hc_nm_0_1
  have ha_nm_0_1 : _ = r0 := (hL_1 (nm 0 1) (nm_ne2 (by omega))).trans ha_s
  have hM := u_1.2.2 hM
  have hP := hP.new u_1 hL_1 (by first | rfl | simp [inN])
  refine c_putF (i := nm 0 1) (ty := tyX7 0) (fs1 := [.ref q_1, .int 0]) X hw hS ha_nm_0_1 hc_nm_0_1 rfl gX7 tyX7 tyX7_ok nmX7 0 (by decide) fl_X7_13 rfl rfl hnm rfl (tyX7_ok 0 (by decide)) rfl rfl (show 0 < 2 by decide) rfl dX7_init_10 (fun M_2 H locs u_2 hw hS => ?_)
  have hc_nm_0_1 := u_2.1
  have hc_nm_0_2 := (u_2.2.1 (nm 0 2) (nm_ne2 (by omega))).trans hc_nm_0_2
  have hM := u_2.2.2 hM
  have hP := hP.up u_2 (by first | rfl | simp [inN])
  exact m_vret X hr hlk hw hS (Nat.le_of_ble_eq_true rfl) (Nat.le_of_ble_eq_true rfl) ⟨hP, by rw [ha_nm_0_2]; exact hc_nm_0_1, by exact hc_nm_0_2⟩ dX7_init_13
theorem i_X1_init : mIm yX1_init cX1_init 1 0 := ⟨cd_X1_init, im_X1_init, ini_X1, rfl, by decide, by decide, by decide +kernel⟩
set_option maxHeartbeats 4000000 in
set_option maxRecDepth 100000 in
theorem k_X1_init (Γ : mG) (l : Launch) (L : mI → Nat) (M : mM)   (r0 : Nat) (ha_s : L (nm 0 11) = r0) (hc_s : mget M (nm 0 11) = some (.inr (1, [.null, .null, .null, .null, .int 0]))) (hM : 0 < M.2.length)  : mMet Γ l yX1_init cX1_init 1 none { frames := 1, cells := 4, slots := 693, locals := 12 } [.ref r0] L M (mQv Γ (fun L1 M1 => cP L M L1 M1 (inN [(0, 12), (0, 13), (0, 14), (0, 15)] []) (inN [(0, 11)] []) ∧ mget M1 (nm 0 11) = some (.inr (1, [.ref (L1 (nm 0 12)), .ref (L1 (nm 0 13)), .ref (L1 (nm 0 14)), .ref (L1 (nm 0 15)), .int 0])) ∧ mget M1 (nm 0 12) = some (.inl (Γ.2.1 0, 21, .inl (fun _ => 0))) ∧ mget M1 (nm 0 13) = some (.inl (Γ.2.1 0, 21, .inl (fun _ => 0))) ∧ mget M1 (nm 0 14) = some (.inl (Γ.2.1 0, 21, .inl (fun _ => 0))) ∧ mget M1 (nm 0 15) = some (.inl (Γ.2.1 0, 630, .inl (fun _ => 0))))) := by
  refine m_start (by decide) (Nat.le_of_ble_eq_true rfl) ?_
  intro p e s m args below meth c A ls X hr hlk hnm hw hS hl
  have hx := X.1.1
  have hb := X.1.2.1
  have hP : cP L M L M (inN [(0, 12), (0, 13), (0, 14), (0, 15)] []) (inN [(0, 11)] []) := cP.rf
  have hc_nm_0_11 := hc_s
  have hl : lv_has ls 1 [(0, .ref r0)] := hl
  refine lv_aload_n hx hb dX1_init_0 rfl (lv_at hl 0 rfl) ?_
  refine c_objInit X ml_X1_1 hl.1 dX1_init_1 (Nat.le_of_ble_eq_true rfl) (Nat.le_of_ble_eq_true rfl) ?_
  refine lv_aload_n hx hb dX1_init_4 rfl (lv_at hl 0 rfl) ?_
  refine lv_bipush (v := 21) hx hb dX1_init_5 (by decide) ?_
  refine c_newi (N' := 21) X hw hS hM 0 12 (by decide) (by decide) (Nat.le_of_ble_eq_true rfl) (Nat.le_of_ble_eq_true rfl) (Nat.le_of_ble_eq_true rfl) dX1_init_7 (fun q_1 L_1 M_1 H hq_1 hL_1 u_1 hw hS => ?_)
  have hc_nm_0_12 := u_1.1
  have ha_nm_0_12 := hq_1
  have hc_nm_0_11 := (u_1.2.1 (nm 0 11) (nm_ne2 (by omega))).trans hc_nm_0_11
  have ha_nm_0_11 : _ = r0 := (hL_1 (nm 0 11) (nm_ne2 (by omega))).trans ha_s
  have hM := u_1.2.2 hM
  have hP := hP.new u_1 hL_1 (by first | rfl | simp [inN])
  refine c_putF (i := nm 0 11) (ty := tyX1 0) (fs1 := [.ref q_1, .null, .null, .null, .int 0]) X hw hS ha_nm_0_11 hc_nm_0_11 rfl gX1 tyX1 tyX1_ok nmX1 0 (by decide) fl_X1_9 rfl rfl hnm rfl (tyX1_ok 0 (by decide)) rfl rfl (show 0 < 5 by decide) rfl dX1_init_9 (fun M_2 H locs u_2 hw hS => ?_)
  have hc_nm_0_11 := u_2.1
  have hc_nm_0_12 := (u_2.2.1 (nm 0 12) (nm_ne2 (by omega))).trans hc_nm_0_12
  have hM := u_2.2.2 hM
  have hP := hP.up u_2 (by first | rfl | simp [inN])
  refine lv_aload_n hx hb dX1_init_12 rfl (lv_at hl 0 rfl) ?_
  refine lv_bipush (v := 21) hx hb dX1_init_13 (by decide) ?_
  refine c_newi (N' := 21) X hw hS hM 0 13 (by decide) (by decide) (Nat.le_of_ble_eq_true rfl) (Nat.le_of_ble_eq_true rfl) (Nat.le_of_ble_eq_true rfl) dX1_init_15 (fun q_3 L_3 M_3 H hq_3 hL_3 u_3 hw hS => ?_)
  have hc_nm_0_13 := u_3.1
  have ha_nm_0_13 := hq_3
  have hc_nm_0_11 := (u_3.2.1 (nm 0 11) (nm_ne2 (by omega))).trans hc_nm_0_11
  have hc_nm_0_12 := (u_3.2.1 (nm 0 12) (nm_ne2 (by omega))).trans hc_nm_0_12
  have ha_nm_0_11 : _ = r0 := (hL_3 (nm 0 11) (nm_ne2 (by omega))).trans ha_nm_0_11
  have ha_nm_0_12 : _ = q_1 := (hL_3 (nm 0 12) (nm_ne2 (by omega))).trans ha_nm_0_12
  have hM := u_3.2.2 hM
  have hP := hP.new u_3 hL_3 (by first | rfl | simp [inN])
  refine c_putF (i := nm 0 11) (ty := tyX1 1) (fs1 := [.ref q_1, .ref q_3, .null, .null, .int 0]) X hw hS ha_nm_0_11 hc_nm_0_11 rfl gX1 tyX1 tyX1_ok nmX1 1 (by decide) fl_X1_13 rfl rfl hnm rfl (tyX1_ok 1 (by decide)) rfl rfl (show 1 < 5 by decide) rfl dX1_init_17 (fun M_4 H locs u_4 hw hS => ?_)
  have hc_nm_0_11 := u_4.1
  have hc_nm_0_12 := (u_4.2.1 (nm 0 12) (nm_ne2 (by omega))).trans hc_nm_0_12
  have hc_nm_0_13 := (u_4.2.1 (nm 0 13) (nm_ne2 (by omega))).trans hc_nm_0_13
  have hM := u_4.2.2 hM
  have hP := hP.up u_4 (by first | rfl | simp [inN])
  refine lv_aload_n hx hb dX1_init_20 rfl (lv_at hl 0 rfl) ?_
  refine lv_bipush (v := 21) hx hb dX1_init_21 (by decide) ?_
  refine c_newi (N' := 21) X hw hS hM 0 14 (by decide) (by decide) (Nat.le_of_ble_eq_true rfl) (Nat.le_of_ble_eq_true rfl) (Nat.le_of_ble_eq_true rfl) dX1_init_23 (fun q_5 L_5 M_5 H hq_5 hL_5 u_5 hw hS => ?_)
  have hc_nm_0_14 := u_5.1
  have ha_nm_0_14 := hq_5
  have hc_nm_0_11 := (u_5.2.1 (nm 0 11) (nm_ne2 (by omega))).trans hc_nm_0_11
  have hc_nm_0_12 := (u_5.2.1 (nm 0 12) (nm_ne2 (by omega))).trans hc_nm_0_12
  have hc_nm_0_13 := (u_5.2.1 (nm 0 13) (nm_ne2 (by omega))).trans hc_nm_0_13
  have ha_nm_0_11 : _ = r0 := (hL_5 (nm 0 11) (nm_ne2 (by omega))).trans ha_nm_0_11
  have ha_nm_0_12 : _ = q_1 := (hL_5 (nm 0 12) (nm_ne2 (by omega))).trans ha_nm_0_12
  have ha_nm_0_13 : _ = q_3 := (hL_5 (nm 0 13) (nm_ne2 (by omega))).trans ha_nm_0_13
  have hM := u_5.2.2 hM
  have hP := hP.new u_5 hL_5 (by first | rfl | simp [inN])
  refine c_putF (i := nm 0 11) (ty := tyX1 2) (fs1 := [.ref q_1, .ref q_3, .ref q_5, .null, .int 0]) X hw hS ha_nm_0_11 hc_nm_0_11 rfl gX1 tyX1 tyX1_ok nmX1 2 (by decide) fl_X1_16 rfl rfl hnm rfl (tyX1_ok 2 (by decide)) rfl rfl (show 2 < 5 by decide) rfl dX1_init_25 (fun M_6 H locs u_6 hw hS => ?_)
  have hc_nm_0_11 := u_6.1
  have hc_nm_0_12 := (u_6.2.1 (nm 0 12) (nm_ne2 (by omega))).trans hc_nm_0_12
  have hc_nm_0_13 := (u_6.2.1 (nm 0 13) (nm_ne2 (by omega))).trans hc_nm_0_13
  have hc_nm_0_14 := (u_6.2.1 (nm 0 14) (nm_ne2 (by omega))).trans hc_nm_0_14
  have hM := u_6.2.2 hM
  have hP := hP.up u_6 (by first | rfl | simp [inN])
  refine lv_aload_n hx hb dX1_init_28 rfl (lv_at hl 0 rfl) ?_
  refine lv_sipush (v := 630) hx hb dX1_init_29 (by decide) ?_
  refine c_newi (N' := 630) X hw hS hM 0 15 (by decide) (by decide) (Nat.le_of_ble_eq_true rfl) (Nat.le_of_ble_eq_true rfl) (Nat.le_of_ble_eq_true rfl) dX1_init_32 (fun q_7 L_7 M_7 H hq_7 hL_7 u_7 hw hS => ?_)
  have hc_nm_0_15 := u_7.1
  have ha_nm_0_15 := hq_7
  have hc_nm_0_11 := (u_7.2.1 (nm 0 11) (nm_ne2 (by omega))).trans hc_nm_0_11
  have hc_nm_0_12 := (u_7.2.1 (nm 0 12) (nm_ne2 (by omega))).trans hc_nm_0_12
  have hc_nm_0_13 := (u_7.2.1 (nm 0 13) (nm_ne2 (by omega))).trans hc_nm_0_13
  have hc_nm_0_14 := (u_7.2.1 (nm 0 14) (nm_ne2 (by omega))).trans hc_nm_0_14
  have ha_nm_0_11 : _ = r0 := (hL_7 (nm 0 11) (nm_ne2 (by omega))).trans ha_nm_0_11
  have ha_nm_0_12 : _ = q_1 := (hL_7 (nm 0 12) (nm_ne2 (by omega))).trans ha_nm_0_12
  have ha_nm_0_13 : _ = q_3 := (hL_7 (nm 0 13) (nm_ne2 (by omega))).trans ha_nm_0_13
  have ha_nm_0_14 : _ = q_5 := (hL_7 (nm 0 14) (nm_ne2 (by omega))).trans ha_nm_0_14
  have hM := u_7.2.2 hM
  have hP := hP.new u_7 hL_7 (by first | rfl | simp [inN])
  refine c_putF (i := nm 0 11) (ty := tyX1 3) (fs1 := [.ref q_1, .ref q_3, .ref q_5, .ref q_7, .int 0]) X hw hS ha_nm_0_11 hc_nm_0_11 rfl gX1 tyX1 tyX1_ok nmX1 3 (by decide) fl_X1_19 rfl rfl hnm rfl (tyX1_ok 3 (by decide)) rfl rfl (show 3 < 5 by decide) rfl dX1_init_34 (fun M_8 H locs u_8 hw hS => ?_)
  have hc_nm_0_11 := u_8.1
  have hc_nm_0_12 := (u_8.2.1 (nm 0 12) (nm_ne2 (by omega))).trans hc_nm_0_12
  have hc_nm_0_13 := (u_8.2.1 (nm 0 13) (nm_ne2 (by omega))).trans hc_nm_0_13
  have hc_nm_0_14 := (u_8.2.1 (nm 0 14) (nm_ne2 (by omega))).trans hc_nm_0_14
  have hc_nm_0_15 := (u_8.2.1 (nm 0 15) (nm_ne2 (by omega))).trans hc_nm_0_15
  have hM := u_8.2.2 hM
  have hP := hP.up u_8 (by first | rfl | simp [inN])
  exact m_vret X hr hlk hw hS (Nat.le_of_ble_eq_true rfl) (Nat.le_of_ble_eq_true rfl) ⟨hP, by rw [ha_nm_0_12, ha_nm_0_13, ha_nm_0_14, ha_nm_0_15]; exact hc_nm_0_11, by exact hc_nm_0_12, by exact hc_nm_0_13, by exact hc_nm_0_14, by exact hc_nm_0_15⟩ dX1_init_37
theorem i_X4_init : mIm yX4_init cX4_init 1 0 := ⟨cd_X4_init, im_X4_init, ini_X4, rfl, by decide, by decide, by decide +kernel⟩
set_option maxHeartbeats 4000000 in
set_option maxRecDepth 100000 in
theorem k_X4_init (Γ : mG) (l : Launch) (L : mI → Nat) (M : mM)   (r0 : Nat) (ha_s : L (nm 0 10) = r0) (hc_s : mget M (nm 0 10) = some (.inr (3, [.null, .null, .null, .null, .null, .null, .int 0, .int 0, .int 0, .int 0, .int 0, .int 0, .int 0, .int 0]))) (hM : 0 < M.2.length)  : mMet Γ l yX4_init cX4_init 1 none { frames := 2, cells := 10, slots := 850, locals := 32 } [.ref r0] L M (mQv Γ (fun L1 M1 => cP L M L1 M1 (inN [(0, 11), (0, 12), (0, 13), (0, 14), (0, 15), (0, 16), (0, 17), (0, 18), (0, 19), (0, 20)] []) (inN [(0, 10)] []) ∧ mget M1 (nm 0 10) = some (.inr (3, [.ref (L1 (nm 0 11)), .ref (L1 (nm 0 16)), .ref (L1 (nm 0 17)), .ref (L1 (nm 0 18)), .ref (L1 (nm 0 19)), .ref (L1 (nm 0 20)), .int 0, .int 0, .int 0, .int 0, .int 0, .int 0, .int (-99999999), .int (-99999999)])) ∧ mget M1 (nm 0 11) = some (.inr (1, [.ref (L1 (nm 0 12)), .ref (L1 (nm 0 13)), .ref (L1 (nm 0 14)), .ref (L1 (nm 0 15)), .int 0])) ∧ mget M1 (nm 0 12) = some (.inl (Γ.2.1 0, 21, .inl (fun _ => 0))) ∧ mget M1 (nm 0 13) = some (.inl (Γ.2.1 0, 21, .inl (fun _ => 0))) ∧ mget M1 (nm 0 14) = some (.inl (Γ.2.1 0, 21, .inl (fun _ => 0))) ∧ mget M1 (nm 0 15) = some (.inl (Γ.2.1 0, 630, .inl (fun _ => 0))) ∧ mget M1 (nm 0 16) = some (.inl (Γ.2.1 3, 8, .inr (.inr (.inr (.inr (fun _ => none)))))) ∧ mget M1 (nm 0 17) = some (.inl (Γ.2.1 0, 8, .inl (fun _ => 0))) ∧ mget M1 (nm 0 18) = some (.inl (Γ.2.1 0, 8, .inl (fun _ => 0))) ∧ mget M1 (nm 0 19) = some (.inl (Γ.2.1 1, 64, .inr (.inl (fun _ => 0)))) ∧ mget M1 (nm 0 20) = some (.inl (Γ.2.1 1, 64, .inr (.inl (fun _ => 0)))))) := by
  refine m_start (by decide) (Nat.le_of_ble_eq_true rfl) ?_
  intro p e s m args below meth c A ls X hr hlk hnm hw hS hl
  have hx := X.1.1
  have hb := X.1.2.1
  have hP : cP L M L M (inN [(0, 11), (0, 12), (0, 13), (0, 14), (0, 15), (0, 16), (0, 17), (0, 18), (0, 19), (0, 20)] []) (inN [(0, 10)] []) := cP.rf
  have hc_nm_0_10 := hc_s
  have hl : lv_has ls 1 [(0, .ref r0)] := hl
  refine lv_aload_n hx hb dX4_init_0 rfl (lv_at hl 0 rfl) ?_
  refine c_objInit X ml_X4_5 hl.1 dX4_init_1 (Nat.le_of_ble_eq_true rfl) (Nat.le_of_ble_eq_true rfl) ?_
  refine lv_aload_n hx hb dX4_init_4 rfl (lv_at hl 0 rfl) ?_
  refine c_new (ci := 1) (fs := [.null, .null, .null, .null, .int 0]) X hw hS hM 0 11 rfl gX1 tyX1 tyX1_ok cl_X4_11 ins_X1 ini_X1 dvX1 (Nat.le_of_ble_eq_true rfl) (Nat.le_of_ble_eq_true rfl) dX4_init_5 (fun q_1 L_1 M_1 H hq_1 hL_1 u_1 hw hS => ?_)
  have hc_nm_0_11 := u_1.1
  have ha_nm_0_11 := hq_1
  have hc_nm_0_10 := (u_1.2.1 (nm 0 10) (nm_ne2 (by omega))).trans hc_nm_0_10
  have ha_nm_0_10 : _ = r0 := (hL_1 (nm 0 10) (nm_ne2 (by omega))).trans ha_s
  have hM := u_1.2.2 hM
  have hP := hP.new u_1 hL_1 (by first | rfl | simp [inN])
  refine lv_dup hx hb dX4_init_8 rfl ?_
  refine m_callv (m_runIN (host := "KindJudge") (As := []) (rest := [.ref q_1, .ref r0]) X (k_X1_init Γ l L_1 M_1 q_1 ha_nm_0_11 hc_nm_0_11 hM) i_X1_init nest_X4_13 hw hS rfl hl.1 ⟨Nat.le_of_ble_eq_true rfl, Nat.le_of_ble_eq_true rfl⟩ (Nat.le_of_ble_eq_true rfl) ⟨Nat.le_of_ble_eq_true rfl, Nat.le_of_ble_eq_true rfl⟩ dX4_init_9) hS (fun L_2 M_2 H locs hp_2 hw hS => ?_)
  obtain ⟨k_2, hc_nm_0_11, hc_nm_0_12, hc_nm_0_13, hc_nm_0_14, hc_nm_0_15⟩ := hp_2
  have ha_nm_0_10 : _ = r0 := (k_2.1 (nm 0 10) (by first | rfl | exact inN_one (by omega))).trans ha_nm_0_10
  have ha_nm_0_11 : _ = q_1 := (k_2.1 (nm 0 11) (by first | rfl | exact inN_one (by omega))).trans ha_nm_0_11
  have hc_nm_0_10 := (k_2.2.1 (nm 0 10) (by first | rfl | exact inN_one (by omega)) (by first | rfl | exact inN_one (by omega))).trans hc_nm_0_10
  have hM := k_2.2.2 hM
  have hP := hP.call k_2 (fun _ h => inN_sub rfl rfl h) (fun _ h g => by first | exact inN_sub rfl rfl g | exact inN_sub rfl rfl h)
  refine c_putF (i := nm 0 10) (ty := tyX4 0) (fs1 := [.ref q_1, .null, .null, .null, .null, .null, .int 0, .int 0, .int 0, .int 0, .int 0, .int 0, .int 0, .int 0]) X hw hS ha_nm_0_10 hc_nm_0_10 rfl gX4 tyX4 tyX4_ok nmX4 0 (by decide) fl_X4_14 rfl rfl hnm rfl (tyX4_ok 0 (by decide)) rfl rfl (show 0 < 14 by decide) rfl dX4_init_12 (fun M_3 H locs u_3 hw hS => ?_)
  have hc_nm_0_10 := u_3.1
  have hc_nm_0_11 := (u_3.2.1 (nm 0 11) (nm_ne2 (by omega))).trans hc_nm_0_11
  have hc_nm_0_12 := (u_3.2.1 (nm 0 12) (nm_ne2 (by omega))).trans hc_nm_0_12
  have hc_nm_0_13 := (u_3.2.1 (nm 0 13) (nm_ne2 (by omega))).trans hc_nm_0_13
  have hc_nm_0_14 := (u_3.2.1 (nm 0 14) (nm_ne2 (by omega))).trans hc_nm_0_14
  have hc_nm_0_15 := (u_3.2.1 (nm 0 15) (nm_ne2 (by omega))).trans hc_nm_0_15
  have hM := u_3.2.2 hM
  have hP := hP.up u_3 (by first | rfl | simp [inN])
  refine lv_aload_n hx hb dX4_init_15 rfl (lv_at hl 0 rfl) ?_
  refine lv_bipush (v := 8) hx hb dX4_init_16 (by decide) ?_
  refine c_newq (t := 3) (N' := 8) X hw hS hM 0 16 rfl cl_X4_20 X.2.1.2.2.1 (by decide) (by decide) (Nat.le_of_ble_eq_true rfl) (Nat.le_of_ble_eq_true rfl) (Nat.le_of_ble_eq_true rfl) dX4_init_18 (fun q_4 L_4 M_4 H hq_4 hL_4 u_4 hw hS => ?_)
  have hc_nm_0_16 := u_4.1
  have ha_nm_0_16 := hq_4
  have hc_nm_0_10 := (u_4.2.1 (nm 0 10) (nm_ne2 (by omega))).trans hc_nm_0_10
  have hc_nm_0_11 := (u_4.2.1 (nm 0 11) (nm_ne2 (by omega))).trans hc_nm_0_11
  have hc_nm_0_12 := (u_4.2.1 (nm 0 12) (nm_ne2 (by omega))).trans hc_nm_0_12
  have hc_nm_0_13 := (u_4.2.1 (nm 0 13) (nm_ne2 (by omega))).trans hc_nm_0_13
  have hc_nm_0_14 := (u_4.2.1 (nm 0 14) (nm_ne2 (by omega))).trans hc_nm_0_14
  have hc_nm_0_15 := (u_4.2.1 (nm 0 15) (nm_ne2 (by omega))).trans hc_nm_0_15
  have ha_nm_0_10 : _ = r0 := (hL_4 (nm 0 10) (nm_ne2 (by omega))).trans ha_nm_0_10
  have ha_nm_0_11 : _ = q_1 := (hL_4 (nm 0 11) (nm_ne2 (by omega))).trans ha_nm_0_11
  have ha_nm_0_12 : _ = L_2 (nm 0 12) := (hL_4 (nm 0 12) (nm_ne2 (by omega))).trans rfl
  have ha_nm_0_13 : _ = L_2 (nm 0 13) := (hL_4 (nm 0 13) (nm_ne2 (by omega))).trans rfl
  have ha_nm_0_14 : _ = L_2 (nm 0 14) := (hL_4 (nm 0 14) (nm_ne2 (by omega))).trans rfl
  have ha_nm_0_15 : _ = L_2 (nm 0 15) := (hL_4 (nm 0 15) (nm_ne2 (by omega))).trans rfl
  have hM := u_4.2.2 hM
  have hP := hP.new u_4 hL_4 (by first | rfl | simp [inN])
  refine c_putF (i := nm 0 10) (ty := tyX4 1) (fs1 := [.ref q_1, .ref q_4, .null, .null, .null, .null, .int 0, .int 0, .int 0, .int 0, .int 0, .int 0, .int 0, .int 0]) X hw hS ha_nm_0_10 hc_nm_0_10 rfl gX4 tyX4 tyX4_ok nmX4 1 (by decide) fl_X4_22 rfl rfl hnm rfl (tyX4_ok 1 (by decide)) rfl rfl (show 1 < 14 by decide) rfl dX4_init_21 (fun M_5 H locs u_5 hw hS => ?_)
  have hc_nm_0_10 := u_5.1
  have hc_nm_0_11 := (u_5.2.1 (nm 0 11) (nm_ne2 (by omega))).trans hc_nm_0_11
  have hc_nm_0_12 := (u_5.2.1 (nm 0 12) (nm_ne2 (by omega))).trans hc_nm_0_12
  have hc_nm_0_13 := (u_5.2.1 (nm 0 13) (nm_ne2 (by omega))).trans hc_nm_0_13
  have hc_nm_0_14 := (u_5.2.1 (nm 0 14) (nm_ne2 (by omega))).trans hc_nm_0_14
  have hc_nm_0_15 := (u_5.2.1 (nm 0 15) (nm_ne2 (by omega))).trans hc_nm_0_15
  have hc_nm_0_16 := (u_5.2.1 (nm 0 16) (nm_ne2 (by omega))).trans hc_nm_0_16
  have hM := u_5.2.2 hM
  have hP := hP.up u_5 (by first | rfl | simp [inN])
  refine lv_aload_n hx hb dX4_init_24 rfl (lv_at hl 0 rfl) ?_
  refine lv_bipush (v := 8) hx hb dX4_init_25 (by decide) ?_
  refine c_newi (N' := 8) X hw hS hM 0 17 (by decide) (by decide) (Nat.le_of_ble_eq_true rfl) (Nat.le_of_ble_eq_true rfl) (Nat.le_of_ble_eq_true rfl) dX4_init_27 (fun q_6 L_6 M_6 H hq_6 hL_6 u_6 hw hS => ?_)
  have hc_nm_0_17 := u_6.1
  have ha_nm_0_17 := hq_6
  have hc_nm_0_10 := (u_6.2.1 (nm 0 10) (nm_ne2 (by omega))).trans hc_nm_0_10
  have hc_nm_0_11 := (u_6.2.1 (nm 0 11) (nm_ne2 (by omega))).trans hc_nm_0_11
  have hc_nm_0_12 := (u_6.2.1 (nm 0 12) (nm_ne2 (by omega))).trans hc_nm_0_12
  have hc_nm_0_13 := (u_6.2.1 (nm 0 13) (nm_ne2 (by omega))).trans hc_nm_0_13
  have hc_nm_0_14 := (u_6.2.1 (nm 0 14) (nm_ne2 (by omega))).trans hc_nm_0_14
  have hc_nm_0_15 := (u_6.2.1 (nm 0 15) (nm_ne2 (by omega))).trans hc_nm_0_15
  have hc_nm_0_16 := (u_6.2.1 (nm 0 16) (nm_ne2 (by omega))).trans hc_nm_0_16
  have ha_nm_0_10 : _ = r0 := (hL_6 (nm 0 10) (nm_ne2 (by omega))).trans ha_nm_0_10
  have ha_nm_0_11 : _ = q_1 := (hL_6 (nm 0 11) (nm_ne2 (by omega))).trans ha_nm_0_11
  have ha_nm_0_12 : _ = L_2 (nm 0 12) := (hL_6 (nm 0 12) (nm_ne2 (by omega))).trans ha_nm_0_12
  have ha_nm_0_13 : _ = L_2 (nm 0 13) := (hL_6 (nm 0 13) (nm_ne2 (by omega))).trans ha_nm_0_13
  have ha_nm_0_14 : _ = L_2 (nm 0 14) := (hL_6 (nm 0 14) (nm_ne2 (by omega))).trans ha_nm_0_14
  have ha_nm_0_15 : _ = L_2 (nm 0 15) := (hL_6 (nm 0 15) (nm_ne2 (by omega))).trans ha_nm_0_15
  have ha_nm_0_16 : _ = q_4 := (hL_6 (nm 0 16) (nm_ne2 (by omega))).trans ha_nm_0_16
  have hM := u_6.2.2 hM
  have hP := hP.new u_6 hL_6 (by first | rfl | simp [inN])
  refine c_putF (i := nm 0 10) (ty := tyX4 2) (fs1 := [.ref q_1, .ref q_4, .ref q_6, .null, .null, .null, .int 0, .int 0, .int 0, .int 0, .int 0, .int 0, .int 0, .int 0]) X hw hS ha_nm_0_10 hc_nm_0_10 rfl gX4 tyX4 tyX4_ok nmX4 2 (by decide) fl_X4_26 rfl rfl hnm rfl (tyX4_ok 2 (by decide)) rfl rfl (show 2 < 14 by decide) rfl dX4_init_29 (fun M_7 H locs u_7 hw hS => ?_)
  have hc_nm_0_10 := u_7.1
  have hc_nm_0_11 := (u_7.2.1 (nm 0 11) (nm_ne2 (by omega))).trans hc_nm_0_11
  have hc_nm_0_12 := (u_7.2.1 (nm 0 12) (nm_ne2 (by omega))).trans hc_nm_0_12
  have hc_nm_0_13 := (u_7.2.1 (nm 0 13) (nm_ne2 (by omega))).trans hc_nm_0_13
  have hc_nm_0_14 := (u_7.2.1 (nm 0 14) (nm_ne2 (by omega))).trans hc_nm_0_14
  have hc_nm_0_15 := (u_7.2.1 (nm 0 15) (nm_ne2 (by omega))).trans hc_nm_0_15
  have hc_nm_0_16 := (u_7.2.1 (nm 0 16) (nm_ne2 (by omega))).trans hc_nm_0_16
  have hc_nm_0_17 := (u_7.2.1 (nm 0 17) (nm_ne2 (by omega))).trans hc_nm_0_17
  have hM := u_7.2.2 hM
  have hP := hP.up u_7 (by first | rfl | simp [inN])
  refine lv_aload_n hx hb dX4_init_32 rfl (lv_at hl 0 rfl) ?_
  refine lv_bipush (v := 8) hx hb dX4_init_33 (by decide) ?_
  refine c_newi (N' := 8) X hw hS hM 0 18 (by decide) (by decide) (Nat.le_of_ble_eq_true rfl) (Nat.le_of_ble_eq_true rfl) (Nat.le_of_ble_eq_true rfl) dX4_init_35 (fun q_8 L_8 M_8 H hq_8 hL_8 u_8 hw hS => ?_)
  have hc_nm_0_18 := u_8.1
  have ha_nm_0_18 := hq_8
  have hc_nm_0_10 := (u_8.2.1 (nm 0 10) (nm_ne2 (by omega))).trans hc_nm_0_10
  have hc_nm_0_11 := (u_8.2.1 (nm 0 11) (nm_ne2 (by omega))).trans hc_nm_0_11
  have hc_nm_0_12 := (u_8.2.1 (nm 0 12) (nm_ne2 (by omega))).trans hc_nm_0_12
  have hc_nm_0_13 := (u_8.2.1 (nm 0 13) (nm_ne2 (by omega))).trans hc_nm_0_13
  have hc_nm_0_14 := (u_8.2.1 (nm 0 14) (nm_ne2 (by omega))).trans hc_nm_0_14
  have hc_nm_0_15 := (u_8.2.1 (nm 0 15) (nm_ne2 (by omega))).trans hc_nm_0_15
  have hc_nm_0_16 := (u_8.2.1 (nm 0 16) (nm_ne2 (by omega))).trans hc_nm_0_16
  have hc_nm_0_17 := (u_8.2.1 (nm 0 17) (nm_ne2 (by omega))).trans hc_nm_0_17
  have ha_nm_0_10 : _ = r0 := (hL_8 (nm 0 10) (nm_ne2 (by omega))).trans ha_nm_0_10
  have ha_nm_0_11 : _ = q_1 := (hL_8 (nm 0 11) (nm_ne2 (by omega))).trans ha_nm_0_11
  have ha_nm_0_12 : _ = L_2 (nm 0 12) := (hL_8 (nm 0 12) (nm_ne2 (by omega))).trans ha_nm_0_12
  have ha_nm_0_13 : _ = L_2 (nm 0 13) := (hL_8 (nm 0 13) (nm_ne2 (by omega))).trans ha_nm_0_13
  have ha_nm_0_14 : _ = L_2 (nm 0 14) := (hL_8 (nm 0 14) (nm_ne2 (by omega))).trans ha_nm_0_14
  have ha_nm_0_15 : _ = L_2 (nm 0 15) := (hL_8 (nm 0 15) (nm_ne2 (by omega))).trans ha_nm_0_15
  have ha_nm_0_16 : _ = q_4 := (hL_8 (nm 0 16) (nm_ne2 (by omega))).trans ha_nm_0_16
  have ha_nm_0_17 : _ = q_6 := (hL_8 (nm 0 17) (nm_ne2 (by omega))).trans ha_nm_0_17
  have hM := u_8.2.2 hM
  have hP := hP.new u_8 hL_8 (by first | rfl | simp [inN])
  refine c_putF (i := nm 0 10) (ty := tyX4 3) (fs1 := [.ref q_1, .ref q_4, .ref q_6, .ref q_8, .null, .null, .int 0, .int 0, .int 0, .int 0, .int 0, .int 0, .int 0, .int 0]) X hw hS ha_nm_0_10 hc_nm_0_10 rfl gX4 tyX4 tyX4_ok nmX4 3 (by decide) fl_X4_30 rfl rfl hnm rfl (tyX4_ok 3 (by decide)) rfl rfl (show 3 < 14 by decide) rfl dX4_init_37 (fun M_9 H locs u_9 hw hS => ?_)
  have hc_nm_0_10 := u_9.1
  have hc_nm_0_11 := (u_9.2.1 (nm 0 11) (nm_ne2 (by omega))).trans hc_nm_0_11
  have hc_nm_0_12 := (u_9.2.1 (nm 0 12) (nm_ne2 (by omega))).trans hc_nm_0_12
  have hc_nm_0_13 := (u_9.2.1 (nm 0 13) (nm_ne2 (by omega))).trans hc_nm_0_13
  have hc_nm_0_14 := (u_9.2.1 (nm 0 14) (nm_ne2 (by omega))).trans hc_nm_0_14
  have hc_nm_0_15 := (u_9.2.1 (nm 0 15) (nm_ne2 (by omega))).trans hc_nm_0_15
  have hc_nm_0_16 := (u_9.2.1 (nm 0 16) (nm_ne2 (by omega))).trans hc_nm_0_16
  have hc_nm_0_17 := (u_9.2.1 (nm 0 17) (nm_ne2 (by omega))).trans hc_nm_0_17
  have hc_nm_0_18 := (u_9.2.1 (nm 0 18) (nm_ne2 (by omega))).trans hc_nm_0_18
  have hM := u_9.2.2 hM
  have hP := hP.up u_9 (by first | rfl | simp [inN])
  refine lv_aload_n hx hb dX4_init_40 rfl (lv_at hl 0 rfl) ?_
  refine lv_bipush (v := 64) hx hb dX4_init_41 (by decide) ?_
  refine c_newl (N' := 64) X hw hS hM 0 19 (by decide) (by decide) (Nat.le_of_ble_eq_true rfl) (Nat.le_of_ble_eq_true rfl) (Nat.le_of_ble_eq_true rfl) dX4_init_43 (fun q_10 L_10 M_10 H hq_10 hL_10 u_10 hw hS => ?_)
  have hc_nm_0_19 := u_10.1
  have ha_nm_0_19 := hq_10
  have hc_nm_0_10 := (u_10.2.1 (nm 0 10) (nm_ne2 (by omega))).trans hc_nm_0_10
  have hc_nm_0_11 := (u_10.2.1 (nm 0 11) (nm_ne2 (by omega))).trans hc_nm_0_11
  have hc_nm_0_12 := (u_10.2.1 (nm 0 12) (nm_ne2 (by omega))).trans hc_nm_0_12
  have hc_nm_0_13 := (u_10.2.1 (nm 0 13) (nm_ne2 (by omega))).trans hc_nm_0_13
  have hc_nm_0_14 := (u_10.2.1 (nm 0 14) (nm_ne2 (by omega))).trans hc_nm_0_14
  have hc_nm_0_15 := (u_10.2.1 (nm 0 15) (nm_ne2 (by omega))).trans hc_nm_0_15
  have hc_nm_0_16 := (u_10.2.1 (nm 0 16) (nm_ne2 (by omega))).trans hc_nm_0_16
  have hc_nm_0_17 := (u_10.2.1 (nm 0 17) (nm_ne2 (by omega))).trans hc_nm_0_17
  have hc_nm_0_18 := (u_10.2.1 (nm 0 18) (nm_ne2 (by omega))).trans hc_nm_0_18
  have ha_nm_0_10 : _ = r0 := (hL_10 (nm 0 10) (nm_ne2 (by omega))).trans ha_nm_0_10
  have ha_nm_0_11 : _ = q_1 := (hL_10 (nm 0 11) (nm_ne2 (by omega))).trans ha_nm_0_11
  have ha_nm_0_12 : _ = L_2 (nm 0 12) := (hL_10 (nm 0 12) (nm_ne2 (by omega))).trans ha_nm_0_12
  have ha_nm_0_13 : _ = L_2 (nm 0 13) := (hL_10 (nm 0 13) (nm_ne2 (by omega))).trans ha_nm_0_13
  have ha_nm_0_14 : _ = L_2 (nm 0 14) := (hL_10 (nm 0 14) (nm_ne2 (by omega))).trans ha_nm_0_14
  have ha_nm_0_15 : _ = L_2 (nm 0 15) := (hL_10 (nm 0 15) (nm_ne2 (by omega))).trans ha_nm_0_15
  have ha_nm_0_16 : _ = q_4 := (hL_10 (nm 0 16) (nm_ne2 (by omega))).trans ha_nm_0_16
  have ha_nm_0_17 : _ = q_6 := (hL_10 (nm 0 17) (nm_ne2 (by omega))).trans ha_nm_0_17
  have ha_nm_0_18 : _ = q_8 := (hL_10 (nm 0 18) (nm_ne2 (by omega))).trans ha_nm_0_18
  have hM := u_10.2.2 hM
  have hP := hP.new u_10 hL_10 (by first | rfl | simp [inN])
  refine c_putF (i := nm 0 10) (ty := tyX4 4) (fs1 := [.ref q_1, .ref q_4, .ref q_6, .ref q_8, .ref q_10, .null, .int 0, .int 0, .int 0, .int 0, .int 0, .int 0, .int 0, .int 0]) X hw hS ha_nm_0_10 hc_nm_0_10 rfl gX4 tyX4 tyX4_ok nmX4 4 (by decide) fl_X4_35 rfl rfl hnm rfl (tyX4_ok 4 (by decide)) rfl rfl (show 4 < 14 by decide) rfl dX4_init_45 (fun M_11 H locs u_11 hw hS => ?_)
  have hc_nm_0_10 := u_11.1
  have hc_nm_0_11 := (u_11.2.1 (nm 0 11) (nm_ne2 (by omega))).trans hc_nm_0_11
  have hc_nm_0_12 := (u_11.2.1 (nm 0 12) (nm_ne2 (by omega))).trans hc_nm_0_12
  have hc_nm_0_13 := (u_11.2.1 (nm 0 13) (nm_ne2 (by omega))).trans hc_nm_0_13
  have hc_nm_0_14 := (u_11.2.1 (nm 0 14) (nm_ne2 (by omega))).trans hc_nm_0_14
  have hc_nm_0_15 := (u_11.2.1 (nm 0 15) (nm_ne2 (by omega))).trans hc_nm_0_15
  have hc_nm_0_16 := (u_11.2.1 (nm 0 16) (nm_ne2 (by omega))).trans hc_nm_0_16
  have hc_nm_0_17 := (u_11.2.1 (nm 0 17) (nm_ne2 (by omega))).trans hc_nm_0_17
  have hc_nm_0_18 := (u_11.2.1 (nm 0 18) (nm_ne2 (by omega))).trans hc_nm_0_18
  have hc_nm_0_19 := (u_11.2.1 (nm 0 19) (nm_ne2 (by omega))).trans hc_nm_0_19
  have hM := u_11.2.2 hM
  have hP := hP.up u_11 (by first | rfl | simp [inN])
  refine lv_aload_n hx hb dX4_init_48 rfl (lv_at hl 0 rfl) ?_
  refine lv_bipush (v := 64) hx hb dX4_init_49 (by decide) ?_
  refine c_newl (N' := 64) X hw hS hM 0 20 (by decide) (by decide) (Nat.le_of_ble_eq_true rfl) (Nat.le_of_ble_eq_true rfl) (Nat.le_of_ble_eq_true rfl) dX4_init_51 (fun q_12 L_12 M_12 H hq_12 hL_12 u_12 hw hS => ?_)
  have hc_nm_0_20 := u_12.1
  have ha_nm_0_20 := hq_12
  have hc_nm_0_10 := (u_12.2.1 (nm 0 10) (nm_ne2 (by omega))).trans hc_nm_0_10
  have hc_nm_0_11 := (u_12.2.1 (nm 0 11) (nm_ne2 (by omega))).trans hc_nm_0_11
  have hc_nm_0_12 := (u_12.2.1 (nm 0 12) (nm_ne2 (by omega))).trans hc_nm_0_12
  have hc_nm_0_13 := (u_12.2.1 (nm 0 13) (nm_ne2 (by omega))).trans hc_nm_0_13
  have hc_nm_0_14 := (u_12.2.1 (nm 0 14) (nm_ne2 (by omega))).trans hc_nm_0_14
  have hc_nm_0_15 := (u_12.2.1 (nm 0 15) (nm_ne2 (by omega))).trans hc_nm_0_15
  have hc_nm_0_16 := (u_12.2.1 (nm 0 16) (nm_ne2 (by omega))).trans hc_nm_0_16
  have hc_nm_0_17 := (u_12.2.1 (nm 0 17) (nm_ne2 (by omega))).trans hc_nm_0_17
  have hc_nm_0_18 := (u_12.2.1 (nm 0 18) (nm_ne2 (by omega))).trans hc_nm_0_18
  have hc_nm_0_19 := (u_12.2.1 (nm 0 19) (nm_ne2 (by omega))).trans hc_nm_0_19
  have ha_nm_0_10 : _ = r0 := (hL_12 (nm 0 10) (nm_ne2 (by omega))).trans ha_nm_0_10
  have ha_nm_0_11 : _ = q_1 := (hL_12 (nm 0 11) (nm_ne2 (by omega))).trans ha_nm_0_11
  have ha_nm_0_12 : _ = L_2 (nm 0 12) := (hL_12 (nm 0 12) (nm_ne2 (by omega))).trans ha_nm_0_12
  have ha_nm_0_13 : _ = L_2 (nm 0 13) := (hL_12 (nm 0 13) (nm_ne2 (by omega))).trans ha_nm_0_13
  have ha_nm_0_14 : _ = L_2 (nm 0 14) := (hL_12 (nm 0 14) (nm_ne2 (by omega))).trans ha_nm_0_14
  have ha_nm_0_15 : _ = L_2 (nm 0 15) := (hL_12 (nm 0 15) (nm_ne2 (by omega))).trans ha_nm_0_15
  have ha_nm_0_16 : _ = q_4 := (hL_12 (nm 0 16) (nm_ne2 (by omega))).trans ha_nm_0_16
  have ha_nm_0_17 : _ = q_6 := (hL_12 (nm 0 17) (nm_ne2 (by omega))).trans ha_nm_0_17
  have ha_nm_0_18 : _ = q_8 := (hL_12 (nm 0 18) (nm_ne2 (by omega))).trans ha_nm_0_18
  have ha_nm_0_19 : _ = q_10 := (hL_12 (nm 0 19) (nm_ne2 (by omega))).trans ha_nm_0_19
  have hM := u_12.2.2 hM
  have hP := hP.new u_12 hL_12 (by first | rfl | simp [inN])
  refine c_putF (i := nm 0 10) (ty := tyX4 5) (fs1 := [.ref q_1, .ref q_4, .ref q_6, .ref q_8, .ref q_10, .ref q_12, .int 0, .int 0, .int 0, .int 0, .int 0, .int 0, .int 0, .int 0]) X hw hS ha_nm_0_10 hc_nm_0_10 rfl gX4 tyX4 tyX4_ok nmX4 5 (by decide) fl_X4_39 rfl rfl hnm rfl (tyX4_ok 5 (by decide)) rfl rfl (show 5 < 14 by decide) rfl dX4_init_53 (fun M_13 H locs u_13 hw hS => ?_)
  have hc_nm_0_10 := u_13.1
  have hc_nm_0_11 := (u_13.2.1 (nm 0 11) (nm_ne2 (by omega))).trans hc_nm_0_11
  have hc_nm_0_12 := (u_13.2.1 (nm 0 12) (nm_ne2 (by omega))).trans hc_nm_0_12
  have hc_nm_0_13 := (u_13.2.1 (nm 0 13) (nm_ne2 (by omega))).trans hc_nm_0_13
  have hc_nm_0_14 := (u_13.2.1 (nm 0 14) (nm_ne2 (by omega))).trans hc_nm_0_14
  have hc_nm_0_15 := (u_13.2.1 (nm 0 15) (nm_ne2 (by omega))).trans hc_nm_0_15
  have hc_nm_0_16 := (u_13.2.1 (nm 0 16) (nm_ne2 (by omega))).trans hc_nm_0_16
  have hc_nm_0_17 := (u_13.2.1 (nm 0 17) (nm_ne2 (by omega))).trans hc_nm_0_17
  have hc_nm_0_18 := (u_13.2.1 (nm 0 18) (nm_ne2 (by omega))).trans hc_nm_0_18
  have hc_nm_0_19 := (u_13.2.1 (nm 0 19) (nm_ne2 (by omega))).trans hc_nm_0_19
  have hc_nm_0_20 := (u_13.2.1 (nm 0 20) (nm_ne2 (by omega))).trans hc_nm_0_20
  have hM := u_13.2.2 hM
  have hP := hP.up u_13 (by first | rfl | simp [inN])
  refine lv_aload_n hx hb dX4_init_56 rfl (lv_at hl 0 rfl) ?_
  refine lv_ldc (v := (-99999999)) hx hb X.1.2.2.2.1 (X.1.2.2.2.2 _ ki_X4_42) dX4_init_57 ?_
  refine c_put (i := nm 0 10) (ty := tyX4 12) (fs1 := [.ref q_1, .ref q_4, .ref q_6, .ref q_8, .ref q_10, .ref q_12, .int 0, .int 0, .int 0, .int 0, .int 0, .int 0, .int (-99999999), .int 0]) X hw hS ha_nm_0_10 hc_nm_0_10 rfl gX4 tyX4 tyX4_ok nmX4 12 (by decide) fl_X4_43 rfl rfl (tyX4_ok 12 (by decide)) rfl rfl (show 12 < 14 by decide) rfl dX4_init_59 (fun M_14 H locs u_14 hw hS => ?_)
  have hc_nm_0_10 := u_14.1
  have hc_nm_0_11 := (u_14.2.1 (nm 0 11) (nm_ne2 (by omega))).trans hc_nm_0_11
  have hc_nm_0_12 := (u_14.2.1 (nm 0 12) (nm_ne2 (by omega))).trans hc_nm_0_12
  have hc_nm_0_13 := (u_14.2.1 (nm 0 13) (nm_ne2 (by omega))).trans hc_nm_0_13
  have hc_nm_0_14 := (u_14.2.1 (nm 0 14) (nm_ne2 (by omega))).trans hc_nm_0_14
  have hc_nm_0_15 := (u_14.2.1 (nm 0 15) (nm_ne2 (by omega))).trans hc_nm_0_15
  have hc_nm_0_16 := (u_14.2.1 (nm 0 16) (nm_ne2 (by omega))).trans hc_nm_0_16
  have hc_nm_0_17 := (u_14.2.1 (nm 0 17) (nm_ne2 (by omega))).trans hc_nm_0_17
  have hc_nm_0_18 := (u_14.2.1 (nm 0 18) (nm_ne2 (by omega))).trans hc_nm_0_18
  have hc_nm_0_19 := (u_14.2.1 (nm 0 19) (nm_ne2 (by omega))).trans hc_nm_0_19
  have hc_nm_0_20 := (u_14.2.1 (nm 0 20) (nm_ne2 (by omega))).trans hc_nm_0_20
  have hM := u_14.2.2 hM
  have hP := hP.up u_14 (by first | rfl | simp [inN])
  refine lv_aload_n hx hb dX4_init_62 rfl (lv_at hl 0 rfl) ?_
  refine lv_ldc (v := (-99999999)) hx hb X.1.2.2.2.1 (X.1.2.2.2.2 _ ki_X4_42) dX4_init_63 ?_
  refine c_put (i := nm 0 10) (ty := tyX4 13) (fs1 := [.ref q_1, .ref q_4, .ref q_6, .ref q_8, .ref q_10, .ref q_12, .int 0, .int 0, .int 0, .int 0, .int 0, .int 0, .int (-99999999), .int (-99999999)]) X hw hS ha_nm_0_10 hc_nm_0_10 rfl gX4 tyX4 tyX4_ok nmX4 13 (by decide) fl_X4_47 rfl rfl (tyX4_ok 13 (by decide)) rfl rfl (show 13 < 14 by decide) rfl dX4_init_65 (fun M_15 H locs u_15 hw hS => ?_)
  have hc_nm_0_10 := u_15.1
  have hc_nm_0_11 := (u_15.2.1 (nm 0 11) (nm_ne2 (by omega))).trans hc_nm_0_11
  have hc_nm_0_12 := (u_15.2.1 (nm 0 12) (nm_ne2 (by omega))).trans hc_nm_0_12
  have hc_nm_0_13 := (u_15.2.1 (nm 0 13) (nm_ne2 (by omega))).trans hc_nm_0_13
  have hc_nm_0_14 := (u_15.2.1 (nm 0 14) (nm_ne2 (by omega))).trans hc_nm_0_14
  have hc_nm_0_15 := (u_15.2.1 (nm 0 15) (nm_ne2 (by omega))).trans hc_nm_0_15
  have hc_nm_0_16 := (u_15.2.1 (nm 0 16) (nm_ne2 (by omega))).trans hc_nm_0_16
  have hc_nm_0_17 := (u_15.2.1 (nm 0 17) (nm_ne2 (by omega))).trans hc_nm_0_17
  have hc_nm_0_18 := (u_15.2.1 (nm 0 18) (nm_ne2 (by omega))).trans hc_nm_0_18
  have hc_nm_0_19 := (u_15.2.1 (nm 0 19) (nm_ne2 (by omega))).trans hc_nm_0_19
  have hc_nm_0_20 := (u_15.2.1 (nm 0 20) (nm_ne2 (by omega))).trans hc_nm_0_20
  have hM := u_15.2.2 hM
  have hP := hP.up u_15 (by first | rfl | simp [inN])
  exact m_vret X hr hlk hw hS (Nat.le_of_ble_eq_true rfl) (Nat.le_of_ble_eq_true rfl) ⟨hP, by rw [ha_nm_0_11, ha_nm_0_16, ha_nm_0_17, ha_nm_0_18, ha_nm_0_19, ha_nm_0_20]; exact hc_nm_0_10, by rw [ha_nm_0_12, ha_nm_0_13, ha_nm_0_14, ha_nm_0_15]; exact hc_nm_0_11, by exact hc_nm_0_12, by exact hc_nm_0_13, by exact hc_nm_0_14, by exact hc_nm_0_15, by exact hc_nm_0_16, by exact hc_nm_0_17, by exact hc_nm_0_18, by exact hc_nm_0_19, by exact hc_nm_0_20⟩ dX4_init_68
theorem i_X2_init : mIm yX2_init cX2_init 2 0 := ⟨cd_X2_init, im_X2_init, ini_X2, rfl, by decide, by decide, by decide +kernel⟩
set_option maxHeartbeats 4000000 in
set_option maxRecDepth 100000 in
theorem k_X2_init (Γ : mG) (l : Launch) (L : mI → Nat) (M : mM)   (r0 : Nat) (ha_s : L (nm 0 3) = r0) (hc_s : mget M (nm 0 3) = some (.inr (2, [.null, .null, .null, .int 0, .int 0, .int 0]))) (hM : 0 < M.2.length)  : mMet Γ l yX2_init cX2_init 2 none { frames := 3, cells := 86, slots := 799, locals := 52 } [.ref r0] L M (mQv Γ (fun L1 M1 => cP L M L1 M1 (inN [(0, 4), (0, 5), (0, 6), (0, 7), (0, 8), (0, 9)] [1]) (inN [(0, 3)] []) ∧ mget M1 (nm 0 3) = some (.inr (2, [.ref (L1 (nm 0 4)), .ref (L1 (nm 0 5)), .ref (L1 (nm 0 7)), .int 0, .int 0, .int 0])) ∧ mget M1 (nm 0 5) = some (.inr (4, [.ref (L1 (nm 0 6)), .int (-1)])) ∧ mget M1 (nm 0 6) = some (.inl (Γ.2.1 0, 16, .inl (fun _ => 0))) ∧ mget M1 (nm 0 7) = some (.inr (6, [.ref (L1 (nm 0 8)), .int 0, .int 0])) ∧ mget M1 (nm 0 8) = some (.inr (4, [.ref (L1 (nm 0 9)), .int (-1)])) ∧ mget M1 (nm 0 9) = some (.inl (Γ.2.1 0, 16, .inl (fun _ => 0))) ∧ aOK Γ L1 M1)) := by
  refine m_start (by decide) (Nat.le_of_ble_eq_true rfl) ?_
  intro p e s m args below meth c A ls X hr hlk hnm hw hS hl
  have hx := X.1.1
  have hb := X.1.2.1
  have hP : cP L M L M (inN [(0, 4), (0, 5), (0, 6), (0, 7), (0, 8), (0, 9)] [1]) (inN [(0, 3)] []) := cP.rf
  have hc_nm_0_3 := hc_s
  have hl : lv_has ls 2 [(0, .ref r0)] := hl
  have KL : ∀ (u t : Nat) (j : Int32) (L1 : mI → Nat) (M1 : mM) (g : Nat → Option Nat) (H : Heap) (locs : List Loc) (ls : Array Slot), t + u = 40 → j = nI t → cP L M L1 M1 (inN [(0, 4), (0, 5), (0, 6), (0, 7), (0, 8), (0, 9)] [1]) (inN [(0, 3)] []) → 0 < M1.2.length → L1 (nm 0 3) = r0 → mget M1 (nm 0 3) = some (.inr (2, [.ref (L1 (nm 0 4)), .ref (L1 (nm 0 5)), .ref (L1 (nm 0 7)), .int 0, .int 0, .int 0])) → mget M1 (nm 0 5) = some (.inr (4, [.ref (L1 (nm 0 6)), .int (-1)])) → mget M1 (nm 0 6) = some (.inl (Γ.2.1 0, 16, .inl (fun _ => 0))) → mget M1 (nm 0 7) = some (.inr (6, [.ref (L1 (nm 0 8)), .int 0, .int 0])) → mget M1 (nm 0 8) = some (.inr (4, [.ref (L1 (nm 0 9)), .int (-1)])) → mget M1 (nm 0 9) = some (.inl (Γ.2.1 0, 16, .inl (fun _ => 0))) → mget M1 (nm 0 4) = some (.inl (Γ.2.1 4, 40, .inr (.inr (.inr (.inr (g)))))) → aIn Γ L1 M1 g t → mW Γ.1 vwCl A L1 M1 H → va_S A s.heap H locs → lv_has ls 2 [(1, .int j), (0, .ref r0)] → W p l e { frames := 3, cells := 86, slots := 799, locals := 52 } s m args below meth c H locs (6 + 2 * t) (79 + 18 * t) (MQ below (mQv Γ (fun L1 M1 => cP L M L1 M1 (inN [(0, 4), (0, 5), (0, 6), (0, 7), (0, 8), (0, 9)] [1]) (inN [(0, 3)] []) ∧ mget M1 (nm 0 3) = some (.inr (2, [.ref (L1 (nm 0 4)), .ref (L1 (nm 0 5)), .ref (L1 (nm 0 7)), .int 0, .int 0, .int 0])) ∧ mget M1 (nm 0 5) = some (.inr (4, [.ref (L1 (nm 0 6)), .int (-1)])) ∧ mget M1 (nm 0 6) = some (.inl (Γ.2.1 0, 16, .inl (fun _ => 0))) ∧ mget M1 (nm 0 7) = some (.inr (6, [.ref (L1 (nm 0 8)), .int 0, .int 0])) ∧ mget M1 (nm 0 8) = some (.inr (4, [.ref (L1 (nm 0 9)), .int (-1)])) ∧ mget M1 (nm 0 9) = some (.inl (Γ.2.1 0, 16, .inl (fun _ => 0))) ∧ aOK Γ L1 M1) A) args s 86 799 A) (F0 m 37 ls []) := by
    intro u
    induction u with
    | zero =>
      intro t j L1 M1 g H locs ls ht hj hP hM ha_nm_0_3 hc_nm_0_3 hc_nm_0_5 hc_nm_0_6 hc_nm_0_7 hc_nm_0_8 hc_nm_0_9 hc_nm_0_4 hall hw hS hl
      have hcl : j.toNatClampNeg = t := by rw [hj]; exact nI_clamp (by omega)
      refine lv_iload_n hx hb dX2_init_37 rfl (lv_at hl 0 rfl) ?_
      refine lv_bipush (v := 40) hx hb dX2_init_38 (by decide) ?_
      refine lv_icmp_ge (tgt := 62) hx hb dX2_init_40 (by decide) (fun c_1 => ?_) (fun c_1 => ?_)
      · skip
        have c_1n : t ≥ 40 := ngeT (a := t) (b := 40) hj rfl (by omega) (by omega) c_1
        have c_1m : ¬ t < 40 := by omega
        have ht40 : t = 40 := by omega
        subst ht40
        exact m_vret X hr hlk hw hS (Nat.le_of_ble_eq_true rfl) (Nat.le_of_ble_eq_true rfl) ⟨hP, hc_nm_0_3, hc_nm_0_5, hc_nm_0_6, hc_nm_0_7, hc_nm_0_8, hc_nm_0_9, ⟨g, hc_nm_0_4, hall⟩⟩ dX2_init_62
      · skip
        have c_1n : ¬ t ≥ 40 := ngeF (a := t) (b := 40) hj rfl (by omega) (by omega) c_1
        have c_1m : t < 40 := by omega
        refine lv_aload_n hx hb dX2_init_43 rfl (lv_at hl 1 rfl) ?_
        refine c_get (i := nm 0 3) X hw ha_nm_0_3 hc_nm_0_3 rfl gX2 0 (by decide) fl_X2_13 rfl rfl dX2_init_44 ?_
        refine lv_iload_n hx hb dX2_init_47 rfl (lv_at hl 0 rfl) ?_
        refine c_new (ci := 4) (fs := [.null, .int 0]) X hw hS hM 1 (2 * t) rfl gX6 tyX6 tyX6_ok cl_X2_11 ins_X6 ini_X6 dvX6 (by first | exact Nat.le_of_ble_eq_true rfl | (dsimp only; omega) | omega) (by first | exact Nat.le_of_ble_eq_true rfl | (dsimp only; omega) | omega) dX2_init_48 (fun q_2 L_2 M_2 H hq_2 hL_2 u_2 hw hS => ?_)
        have hc_nm_1_2_t := u_2.1
        have ha_nm_1_2_t := hq_2
        have hc_nm_0_3 := (u_2.2.1 (nm 0 3) (nm_ne1 (by decide))).trans hc_nm_0_3
        have hc_nm_0_5 := (u_2.2.1 (nm 0 5) (nm_ne1 (by decide))).trans hc_nm_0_5
        have hc_nm_0_6 := (u_2.2.1 (nm 0 6) (nm_ne1 (by decide))).trans hc_nm_0_6
        have hc_nm_0_7 := (u_2.2.1 (nm 0 7) (nm_ne1 (by decide))).trans hc_nm_0_7
        have hc_nm_0_8 := (u_2.2.1 (nm 0 8) (nm_ne1 (by decide))).trans hc_nm_0_8
        have hc_nm_0_9 := (u_2.2.1 (nm 0 9) (nm_ne1 (by decide))).trans hc_nm_0_9
        have hc_nm_0_4 := (u_2.2.1 (nm 0 4) (nm_ne1 (by decide))).trans hc_nm_0_4
        have ha_nm_0_3 : _ = r0 := (hL_2 (nm 0 3) (nm_ne1 (by decide))).trans ha_nm_0_3
        have ha_nm_0_5 : _ = L1 (nm 0 5) := (hL_2 (nm 0 5) (nm_ne1 (by decide))).trans rfl
        have ha_nm_0_6 : _ = L1 (nm 0 6) := (hL_2 (nm 0 6) (nm_ne1 (by decide))).trans rfl
        have ha_nm_0_7 : _ = L1 (nm 0 7) := (hL_2 (nm 0 7) (nm_ne1 (by decide))).trans rfl
        have ha_nm_0_8 : _ = L1 (nm 0 8) := (hL_2 (nm 0 8) (nm_ne1 (by decide))).trans rfl
        have ha_nm_0_9 : _ = L1 (nm 0 9) := (hL_2 (nm 0 9) (nm_ne1 (by decide))).trans rfl
        have ha_nm_0_4 : _ = L1 (nm 0 4) := (hL_2 (nm 0 4) (nm_ne1 (by decide))).trans rfl
        have hM := u_2.2.2 hM
        have hP := hP.new u_2 hL_2 (by first | rfl | simp [inN])
        refine lv_dup hx hb dX2_init_51 rfl ?_
        refine m_callv (m_runIN (host := "KindJudge") (As := []) (rest := [.ref q_2, .int j, .ref (L1 (nm 0 4))]) X (k_X6_init Γ l L_2 M_2 1 (2 * t) q_2 ha_nm_1_2_t hc_nm_1_2_t hM) i_X6_init nest_X2_19 hw hS rfl hl.1 ⟨Nat.le_of_ble_eq_true rfl, Nat.le_of_ble_eq_true rfl⟩ (Nat.le_of_ble_eq_true rfl) ⟨(by first | exact Nat.le_of_ble_eq_true rfl | (dsimp only; omega) | omega), (by first | exact Nat.le_of_ble_eq_true rfl | (dsimp only; omega) | omega)⟩ dX2_init_52) hS (fun L_3 M_3 H locs hp_3 hw hS => ?_)
        obtain ⟨k_3, hc_nm_1_2_t, hc_nm_1_2_t_1⟩ := hp_3
        have ha_nm_0_3 : _ = r0 := (k_3.1 (nm 0 3) (by first | rfl | exact inN_one (by omega))).trans ha_nm_0_3
        have ha_nm_0_5 : _ = L1 (nm 0 5) := (k_3.1 (nm 0 5) (by first | rfl | exact inN_one (by omega))).trans ha_nm_0_5
        have ha_nm_0_6 : _ = L1 (nm 0 6) := (k_3.1 (nm 0 6) (by first | rfl | exact inN_one (by omega))).trans ha_nm_0_6
        have ha_nm_0_7 : _ = L1 (nm 0 7) := (k_3.1 (nm 0 7) (by first | rfl | exact inN_one (by omega))).trans ha_nm_0_7
        have ha_nm_0_8 : _ = L1 (nm 0 8) := (k_3.1 (nm 0 8) (by first | rfl | exact inN_one (by omega))).trans ha_nm_0_8
        have ha_nm_0_9 : _ = L1 (nm 0 9) := (k_3.1 (nm 0 9) (by first | rfl | exact inN_one (by omega))).trans ha_nm_0_9
        have ha_nm_0_4 : _ = L1 (nm 0 4) := (k_3.1 (nm 0 4) (by first | rfl | exact inN_one (by omega))).trans ha_nm_0_4
        have ha_nm_1_2_t : _ = q_2 := (k_3.1 (nm 1 (2 * t)) (by first | rfl | exact inN_one (by omega))).trans ha_nm_1_2_t
        have hc_nm_0_3 := (k_3.2.1 (nm 0 3) (by first | rfl | exact inN_one (by omega)) (by first | rfl | exact inN_one (by omega))).trans hc_nm_0_3
        have hc_nm_0_5 := (k_3.2.1 (nm 0 5) (by first | rfl | exact inN_one (by omega)) (by first | rfl | exact inN_one (by omega))).trans hc_nm_0_5
        have hc_nm_0_6 := (k_3.2.1 (nm 0 6) (by first | rfl | exact inN_one (by omega)) (by first | rfl | exact inN_one (by omega))).trans hc_nm_0_6
        have hc_nm_0_7 := (k_3.2.1 (nm 0 7) (by first | rfl | exact inN_one (by omega)) (by first | rfl | exact inN_one (by omega))).trans hc_nm_0_7
        have hc_nm_0_8 := (k_3.2.1 (nm 0 8) (by first | rfl | exact inN_one (by omega)) (by first | rfl | exact inN_one (by omega))).trans hc_nm_0_8
        have hc_nm_0_9 := (k_3.2.1 (nm 0 9) (by first | rfl | exact inN_one (by omega)) (by first | rfl | exact inN_one (by omega))).trans hc_nm_0_9
        have hc_nm_0_4 := (k_3.2.1 (nm 0 4) (by first | rfl | exact inN_one (by omega)) (by first | rfl | exact inN_one (by omega))).trans hc_nm_0_4
        have hM := k_3.2.2 hM
        have hP := hP.call k_3 (fun _ h => inN_sub rfl rfl h) (fun _ h g => by first | exact inN_sub rfl rfl g | exact inN_sub rfl rfl h)
        refine c_aast (i := nm 0 4) (j := nm 1 (2 * t)) (ci := 4) (t := 4) X hw hS ha_nm_0_4 ha_nm_1_2_t rfl hc_nm_0_4 hc_nm_1_2_t rfl (vp_inN hj (by omega) (by omega)) dX2_init_55 (fun M_4 H locs u_4 hw hS => ?_)
        have hc_nm_0_4 := u_4.1
        have hc_nm_0_3 := (u_4.2.1 (nm 0 3) (nm_ne2 (by omega))).trans hc_nm_0_3
        have hc_nm_0_5 := (u_4.2.1 (nm 0 5) (nm_ne2 (by omega))).trans hc_nm_0_5
        have hc_nm_0_6 := (u_4.2.1 (nm 0 6) (nm_ne2 (by omega))).trans hc_nm_0_6
        have hc_nm_0_7 := (u_4.2.1 (nm 0 7) (nm_ne2 (by omega))).trans hc_nm_0_7
        have hc_nm_0_8 := (u_4.2.1 (nm 0 8) (nm_ne2 (by omega))).trans hc_nm_0_8
        have hc_nm_0_9 := (u_4.2.1 (nm 0 9) (nm_ne2 (by omega))).trans hc_nm_0_9
        have hc_nm_1_2_t := (u_4.2.1 (nm 1 (2 * t)) (nm_ne1 (by decide))).trans hc_nm_1_2_t
        have hc_nm_1_2_t_1 := (u_4.2.1 (nm 1 (2 * t + 1)) (nm_ne1 (by decide))).trans hc_nm_1_2_t_1
        have hM := u_4.2.2 hM
        have hP := hP.up u_4 (by first | rfl | simp [inN])
        refine lv_iinc (v := j + 1) (lv' := [(1, .int (j + 1)), (0, .ref r0)]) hx hb dX2_init_56 hl (k := 0) rfl rfl (by decide) rfl (fun ls hl => ?_)
        refine lv_goto (tgt := 37) hx hb dX2_init_59 (by decide) ?_
        exact absurd ht (by omega)
    | succ u ih =>
      intro t j L1 M1 g H locs ls ht hj hP hM ha_nm_0_3 hc_nm_0_3 hc_nm_0_5 hc_nm_0_6 hc_nm_0_7 hc_nm_0_8 hc_nm_0_9 hc_nm_0_4 hall hw hS hl
      have hcl : j.toNatClampNeg = t := by rw [hj]; exact nI_clamp (by omega)
      refine lv_iload_n hx hb dX2_init_37 rfl (lv_at hl 0 rfl) ?_
      refine lv_bipush (v := 40) hx hb dX2_init_38 (by decide) ?_
      refine lv_icmp_ge (tgt := 62) hx hb dX2_init_40 (by decide) (fun c_5 => ?_) (fun c_5 => ?_)
      · skip
        have c_5n : t ≥ 40 := ngeT (a := t) (b := 40) hj rfl (by omega) (by omega) c_5
        have c_5m : ¬ t < 40 := by omega
        have ht40 : t = 40 := by omega
        subst ht40
        exact m_vret X hr hlk hw hS (Nat.le_of_ble_eq_true rfl) (Nat.le_of_ble_eq_true rfl) ⟨hP, hc_nm_0_3, hc_nm_0_5, hc_nm_0_6, hc_nm_0_7, hc_nm_0_8, hc_nm_0_9, ⟨g, hc_nm_0_4, hall⟩⟩ dX2_init_62
      · skip
        have c_5n : ¬ t ≥ 40 := ngeF (a := t) (b := 40) hj rfl (by omega) (by omega) c_5
        have c_5m : t < 40 := by omega
        refine lv_aload_n hx hb dX2_init_43 rfl (lv_at hl 1 rfl) ?_
        refine c_get (i := nm 0 3) X hw ha_nm_0_3 hc_nm_0_3 rfl gX2 0 (by decide) fl_X2_13 rfl rfl dX2_init_44 ?_
        refine lv_iload_n hx hb dX2_init_47 rfl (lv_at hl 0 rfl) ?_
        refine c_new (ci := 4) (fs := [.null, .int 0]) X hw hS hM 1 (2 * t) rfl gX6 tyX6 tyX6_ok cl_X2_11 ins_X6 ini_X6 dvX6 (by first | exact Nat.le_of_ble_eq_true rfl | (dsimp only; omega) | omega) (by first | exact Nat.le_of_ble_eq_true rfl | (dsimp only; omega) | omega) dX2_init_48 (fun q_6 L_6 M_6 H hq_6 hL_6 u_6 hw hS => ?_)
        have hc_nm_1_2_t := u_6.1
        have ha_nm_1_2_t := hq_6
        have hc_nm_0_3 := (u_6.2.1 (nm 0 3) (nm_ne1 (by decide))).trans hc_nm_0_3
        have hc_nm_0_5 := (u_6.2.1 (nm 0 5) (nm_ne1 (by decide))).trans hc_nm_0_5
        have hc_nm_0_6 := (u_6.2.1 (nm 0 6) (nm_ne1 (by decide))).trans hc_nm_0_6
        have hc_nm_0_7 := (u_6.2.1 (nm 0 7) (nm_ne1 (by decide))).trans hc_nm_0_7
        have hc_nm_0_8 := (u_6.2.1 (nm 0 8) (nm_ne1 (by decide))).trans hc_nm_0_8
        have hc_nm_0_9 := (u_6.2.1 (nm 0 9) (nm_ne1 (by decide))).trans hc_nm_0_9
        have hc_nm_0_4 := (u_6.2.1 (nm 0 4) (nm_ne1 (by decide))).trans hc_nm_0_4
        have ha_nm_0_3 : _ = r0 := (hL_6 (nm 0 3) (nm_ne1 (by decide))).trans ha_nm_0_3
        have ha_nm_0_5 : _ = L1 (nm 0 5) := (hL_6 (nm 0 5) (nm_ne1 (by decide))).trans rfl
        have ha_nm_0_6 : _ = L1 (nm 0 6) := (hL_6 (nm 0 6) (nm_ne1 (by decide))).trans rfl
        have ha_nm_0_7 : _ = L1 (nm 0 7) := (hL_6 (nm 0 7) (nm_ne1 (by decide))).trans rfl
        have ha_nm_0_8 : _ = L1 (nm 0 8) := (hL_6 (nm 0 8) (nm_ne1 (by decide))).trans rfl
        have ha_nm_0_9 : _ = L1 (nm 0 9) := (hL_6 (nm 0 9) (nm_ne1 (by decide))).trans rfl
        have ha_nm_0_4 : _ = L1 (nm 0 4) := (hL_6 (nm 0 4) (nm_ne1 (by decide))).trans rfl
        have hM := u_6.2.2 hM
        have hP := hP.new u_6 hL_6 (by first | rfl | simp [inN])
        refine lv_dup hx hb dX2_init_51 rfl ?_
        refine m_callv (m_runIN (host := "KindJudge") (As := []) (rest := [.ref q_6, .int j, .ref (L1 (nm 0 4))]) X (k_X6_init Γ l L_6 M_6 1 (2 * t) q_6 ha_nm_1_2_t hc_nm_1_2_t hM) i_X6_init nest_X2_19 hw hS rfl hl.1 ⟨Nat.le_of_ble_eq_true rfl, Nat.le_of_ble_eq_true rfl⟩ (Nat.le_of_ble_eq_true rfl) ⟨(by first | exact Nat.le_of_ble_eq_true rfl | (dsimp only; omega) | omega), (by first | exact Nat.le_of_ble_eq_true rfl | (dsimp only; omega) | omega)⟩ dX2_init_52) hS (fun L_7 M_7 H locs hp_7 hw hS => ?_)
        obtain ⟨k_7, hc_nm_1_2_t, hc_nm_1_2_t_1⟩ := hp_7
        have ha_nm_0_3 : _ = r0 := (k_7.1 (nm 0 3) (by first | rfl | exact inN_one (by omega))).trans ha_nm_0_3
        have ha_nm_0_5 : _ = L1 (nm 0 5) := (k_7.1 (nm 0 5) (by first | rfl | exact inN_one (by omega))).trans ha_nm_0_5
        have ha_nm_0_6 : _ = L1 (nm 0 6) := (k_7.1 (nm 0 6) (by first | rfl | exact inN_one (by omega))).trans ha_nm_0_6
        have ha_nm_0_7 : _ = L1 (nm 0 7) := (k_7.1 (nm 0 7) (by first | rfl | exact inN_one (by omega))).trans ha_nm_0_7
        have ha_nm_0_8 : _ = L1 (nm 0 8) := (k_7.1 (nm 0 8) (by first | rfl | exact inN_one (by omega))).trans ha_nm_0_8
        have ha_nm_0_9 : _ = L1 (nm 0 9) := (k_7.1 (nm 0 9) (by first | rfl | exact inN_one (by omega))).trans ha_nm_0_9
        have ha_nm_0_4 : _ = L1 (nm 0 4) := (k_7.1 (nm 0 4) (by first | rfl | exact inN_one (by omega))).trans ha_nm_0_4
        have ha_nm_1_2_t : _ = q_6 := (k_7.1 (nm 1 (2 * t)) (by first | rfl | exact inN_one (by omega))).trans ha_nm_1_2_t
        have hc_nm_0_3 := (k_7.2.1 (nm 0 3) (by first | rfl | exact inN_one (by omega)) (by first | rfl | exact inN_one (by omega))).trans hc_nm_0_3
        have hc_nm_0_5 := (k_7.2.1 (nm 0 5) (by first | rfl | exact inN_one (by omega)) (by first | rfl | exact inN_one (by omega))).trans hc_nm_0_5
        have hc_nm_0_6 := (k_7.2.1 (nm 0 6) (by first | rfl | exact inN_one (by omega)) (by first | rfl | exact inN_one (by omega))).trans hc_nm_0_6
        have hc_nm_0_7 := (k_7.2.1 (nm 0 7) (by first | rfl | exact inN_one (by omega)) (by first | rfl | exact inN_one (by omega))).trans hc_nm_0_7
        have hc_nm_0_8 := (k_7.2.1 (nm 0 8) (by first | rfl | exact inN_one (by omega)) (by first | rfl | exact inN_one (by omega))).trans hc_nm_0_8
        have hc_nm_0_9 := (k_7.2.1 (nm 0 9) (by first | rfl | exact inN_one (by omega)) (by first | rfl | exact inN_one (by omega))).trans hc_nm_0_9
        have hc_nm_0_4 := (k_7.2.1 (nm 0 4) (by first | rfl | exact inN_one (by omega)) (by first | rfl | exact inN_one (by omega))).trans hc_nm_0_4
        have hM := k_7.2.2 hM
        have hP := hP.call k_7 (fun _ h => inN_sub rfl rfl h) (fun _ h g => by first | exact inN_sub rfl rfl g | exact inN_sub rfl rfl h)
        refine c_aast (i := nm 0 4) (j := nm 1 (2 * t)) (ci := 4) (t := 4) X hw hS ha_nm_0_4 ha_nm_1_2_t rfl hc_nm_0_4 hc_nm_1_2_t rfl (vp_inN hj (by omega) (by omega)) dX2_init_55 (fun M_8 H locs u_8 hw hS => ?_)
        have hc_nm_0_4 := u_8.1
        have hc_nm_0_3 := (u_8.2.1 (nm 0 3) (nm_ne2 (by omega))).trans hc_nm_0_3
        have hc_nm_0_5 := (u_8.2.1 (nm 0 5) (nm_ne2 (by omega))).trans hc_nm_0_5
        have hc_nm_0_6 := (u_8.2.1 (nm 0 6) (nm_ne2 (by omega))).trans hc_nm_0_6
        have hc_nm_0_7 := (u_8.2.1 (nm 0 7) (nm_ne2 (by omega))).trans hc_nm_0_7
        have hc_nm_0_8 := (u_8.2.1 (nm 0 8) (nm_ne2 (by omega))).trans hc_nm_0_8
        have hc_nm_0_9 := (u_8.2.1 (nm 0 9) (nm_ne2 (by omega))).trans hc_nm_0_9
        have hc_nm_1_2_t := (u_8.2.1 (nm 1 (2 * t)) (nm_ne1 (by decide))).trans hc_nm_1_2_t
        have hc_nm_1_2_t_1 := (u_8.2.1 (nm 1 (2 * t + 1)) (nm_ne1 (by decide))).trans hc_nm_1_2_t_1
        have hM := u_8.2.2 hM
        have hP := hP.up u_8 (by first | rfl | simp [inN])
        refine lv_iinc (v := j + 1) (lv' := [(1, .int (j + 1)), (0, .ref r0)]) hx hb dX2_init_56 hl (k := 0) rfl rfl (by decide) rfl (fun ls hl => ?_)
        refine lv_goto (tgt := 37) hx hb dX2_init_59 (by decide) ?_
        refine W.widen (k := 6 + 2 * (t + 1)) (n := 79 + 18 * (t + 1)) (by dsimp only; omega) (by dsimp only; omega) ?_
        exact ih (t + 1) _ _ _ _ H locs ls (by omega) (nadd (a := t) (b := 1) hj rfl) hP hM ha_nm_0_3 (by rw [ha_nm_0_4, ha_nm_0_5, ha_nm_0_7]; exact hc_nm_0_3) (by rw [ha_nm_0_6]; exact hc_nm_0_5) (by exact hc_nm_0_6) (by rw [ha_nm_0_8]; exact hc_nm_0_7) (by rw [ha_nm_0_9]; exact hc_nm_0_8) (by exact hc_nm_0_9) hc_nm_0_4 (aIn.step hall hcl hL_6 u_6 k_7 hq_6 hc_nm_1_2_t hc_nm_1_2_t_1 u_8) hw hS hl
  refine lv_aload_n hx hb dX2_init_0 rfl (lv_at hl 0 rfl) ?_
  refine c_objInit X ml_X2_3 hl.1 dX2_init_1 (Nat.le_of_ble_eq_true rfl) (Nat.le_of_ble_eq_true rfl) ?_
  refine lv_aload_n hx hb dX2_init_4 rfl (lv_at hl 0 rfl) ?_
  refine lv_bipush (v := 40) hx hb dX2_init_5 (by decide) ?_
  refine c_newq (t := 4) (N' := 40) X hw hS hM 0 4 rfl cl_X2_11 X.2.1.2.2.2 (by decide) (by decide) (Nat.le_of_ble_eq_true rfl) (Nat.le_of_ble_eq_true rfl) (Nat.le_of_ble_eq_true rfl) dX2_init_7 (fun q_9 L_9 M_9 H hq_9 hL_9 u_9 hw hS => ?_)
  have hc_nm_0_4 := u_9.1
  have ha_nm_0_4 := hq_9
  have hc_nm_0_3 := (u_9.2.1 (nm 0 3) (nm_ne2 (by omega))).trans hc_nm_0_3
  have ha_nm_0_3 : _ = r0 := (hL_9 (nm 0 3) (nm_ne2 (by omega))).trans ha_s
  have hM := u_9.2.2 hM
  have hP := hP.new u_9 hL_9 (by first | rfl | simp [inN])
  refine c_putF (i := nm 0 3) (ty := tyX2 0) (fs1 := [.ref q_9, .null, .null, .int 0, .int 0, .int 0]) X hw hS ha_nm_0_3 hc_nm_0_3 rfl gX2 tyX2 tyX2_ok nmX2 0 (by decide) fl_X2_13 rfl rfl hnm rfl (tyX2_ok 0 (by decide)) rfl rfl (show 0 < 6 by decide) rfl dX2_init_10 (fun M_10 H locs u_10 hw hS => ?_)
  have hc_nm_0_3 := u_10.1
  have hc_nm_0_4 := (u_10.2.1 (nm 0 4) (nm_ne2 (by omega))).trans hc_nm_0_4
  have hM := u_10.2.2 hM
  have hP := hP.up u_10 (by first | rfl | simp [inN])
  refine lv_aload_n hx hb dX2_init_13 rfl (lv_at hl 0 rfl) ?_
  refine c_new (ci := 4) (fs := [.null, .int 0]) X hw hS hM 0 5 rfl gX6 tyX6 tyX6_ok cl_X2_11 ins_X6 ini_X6 dvX6 (Nat.le_of_ble_eq_true rfl) (Nat.le_of_ble_eq_true rfl) dX2_init_14 (fun q_11 L_11 M_11 H hq_11 hL_11 u_11 hw hS => ?_)
  have hc_nm_0_5 := u_11.1
  have ha_nm_0_5 := hq_11
  have hc_nm_0_3 := (u_11.2.1 (nm 0 3) (nm_ne2 (by omega))).trans hc_nm_0_3
  have hc_nm_0_4 := (u_11.2.1 (nm 0 4) (nm_ne2 (by omega))).trans hc_nm_0_4
  have ha_nm_0_3 : _ = r0 := (hL_11 (nm 0 3) (nm_ne2 (by omega))).trans ha_nm_0_3
  have ha_nm_0_4 : _ = q_9 := (hL_11 (nm 0 4) (nm_ne2 (by omega))).trans ha_nm_0_4
  have hM := u_11.2.2 hM
  have hP := hP.new u_11 hL_11 (by first | rfl | simp [inN])
  refine lv_dup hx hb dX2_init_17 rfl ?_
  refine m_callv (m_runIN (host := "KindJudge") (As := []) (rest := [.ref q_11, .ref r0]) X (k_X6_init Γ l L_11 M_11 0 5 q_11 ha_nm_0_5 hc_nm_0_5 hM) i_X6_init nest_X2_19 hw hS rfl hl.1 ⟨Nat.le_of_ble_eq_true rfl, Nat.le_of_ble_eq_true rfl⟩ (Nat.le_of_ble_eq_true rfl) ⟨Nat.le_of_ble_eq_true rfl, Nat.le_of_ble_eq_true rfl⟩ dX2_init_18) hS (fun L_12 M_12 H locs hp_12 hw hS => ?_)
  obtain ⟨k_12, hc_nm_0_5, hc_nm_0_6⟩ := hp_12
  have ha_nm_0_3 : _ = r0 := (k_12.1 (nm 0 3) (by first | rfl | exact inN_one (by omega))).trans ha_nm_0_3
  have ha_nm_0_4 : _ = q_9 := (k_12.1 (nm 0 4) (by first | rfl | exact inN_one (by omega))).trans ha_nm_0_4
  have ha_nm_0_5 : _ = q_11 := (k_12.1 (nm 0 5) (by first | rfl | exact inN_one (by omega))).trans ha_nm_0_5
  have hc_nm_0_3 := (k_12.2.1 (nm 0 3) (by first | rfl | exact inN_one (by omega)) (by first | rfl | exact inN_one (by omega))).trans hc_nm_0_3
  have hc_nm_0_4 := (k_12.2.1 (nm 0 4) (by first | rfl | exact inN_one (by omega)) (by first | rfl | exact inN_one (by omega))).trans hc_nm_0_4
  have hM := k_12.2.2 hM
  have hP := hP.call k_12 (fun _ h => inN_sub rfl rfl h) (fun _ h g => by first | exact inN_sub rfl rfl g | exact inN_sub rfl rfl h)
  refine c_putF (i := nm 0 3) (ty := tyX2 1) (fs1 := [.ref q_9, .ref q_11, .null, .int 0, .int 0, .int 0]) X hw hS ha_nm_0_3 hc_nm_0_3 rfl gX2 tyX2 tyX2_ok nmX2 1 (by decide) fl_X2_20 rfl rfl hnm rfl (tyX2_ok 1 (by decide)) rfl rfl (show 1 < 6 by decide) rfl dX2_init_21 (fun M_13 H locs u_13 hw hS => ?_)
  have hc_nm_0_3 := u_13.1
  have hc_nm_0_4 := (u_13.2.1 (nm 0 4) (nm_ne2 (by omega))).trans hc_nm_0_4
  have hc_nm_0_5 := (u_13.2.1 (nm 0 5) (nm_ne2 (by omega))).trans hc_nm_0_5
  have hc_nm_0_6 := (u_13.2.1 (nm 0 6) (nm_ne2 (by omega))).trans hc_nm_0_6
  have hM := u_13.2.2 hM
  have hP := hP.up u_13 (by first | rfl | simp [inN])
  refine lv_aload_n hx hb dX2_init_24 rfl (lv_at hl 0 rfl) ?_
  refine c_new (ci := 6) (fs := [.null, .int 0, .int 0]) X hw hS hM 0 7 rfl gX8 tyX8 tyX8_ok cl_X2_24 ins_X8 ini_X8 dvX8 (Nat.le_of_ble_eq_true rfl) (Nat.le_of_ble_eq_true rfl) dX2_init_25 (fun q_14 L_14 M_14 H hq_14 hL_14 u_14 hw hS => ?_)
  have hc_nm_0_7 := u_14.1
  have ha_nm_0_7 := hq_14
  have hc_nm_0_3 := (u_14.2.1 (nm 0 3) (nm_ne2 (by omega))).trans hc_nm_0_3
  have hc_nm_0_4 := (u_14.2.1 (nm 0 4) (nm_ne2 (by omega))).trans hc_nm_0_4
  have hc_nm_0_5 := (u_14.2.1 (nm 0 5) (nm_ne2 (by omega))).trans hc_nm_0_5
  have hc_nm_0_6 := (u_14.2.1 (nm 0 6) (nm_ne2 (by omega))).trans hc_nm_0_6
  have ha_nm_0_3 : _ = r0 := (hL_14 (nm 0 3) (nm_ne2 (by omega))).trans ha_nm_0_3
  have ha_nm_0_4 : _ = q_9 := (hL_14 (nm 0 4) (nm_ne2 (by omega))).trans ha_nm_0_4
  have ha_nm_0_5 : _ = q_11 := (hL_14 (nm 0 5) (nm_ne2 (by omega))).trans ha_nm_0_5
  have ha_nm_0_6 : _ = L_12 (nm 0 6) := (hL_14 (nm 0 6) (nm_ne2 (by omega))).trans rfl
  have hM := u_14.2.2 hM
  have hP := hP.new u_14 hL_14 (by first | rfl | simp [inN])
  refine lv_dup hx hb dX2_init_28 rfl ?_
  refine m_callv (m_runIN (host := "KindJudge") (As := []) (rest := [.ref q_14, .ref r0]) X (k_X8_init Γ l L_14 M_14 q_14 ha_nm_0_7 hc_nm_0_7 hM) i_X8_init nest_X2_26 hw hS rfl hl.1 ⟨Nat.le_of_ble_eq_true rfl, Nat.le_of_ble_eq_true rfl⟩ (Nat.le_of_ble_eq_true rfl) ⟨Nat.le_of_ble_eq_true rfl, Nat.le_of_ble_eq_true rfl⟩ dX2_init_29) hS (fun L_15 M_15 H locs hp_15 hw hS => ?_)
  obtain ⟨k_15, hc_nm_0_7, hc_nm_0_8, hc_nm_0_9⟩ := hp_15
  have ha_nm_0_3 : _ = r0 := (k_15.1 (nm 0 3) (by first | rfl | exact inN_one (by omega))).trans ha_nm_0_3
  have ha_nm_0_4 : _ = q_9 := (k_15.1 (nm 0 4) (by first | rfl | exact inN_one (by omega))).trans ha_nm_0_4
  have ha_nm_0_5 : _ = q_11 := (k_15.1 (nm 0 5) (by first | rfl | exact inN_one (by omega))).trans ha_nm_0_5
  have ha_nm_0_6 : _ = L_12 (nm 0 6) := (k_15.1 (nm 0 6) (by first | rfl | exact inN_one (by omega))).trans ha_nm_0_6
  have ha_nm_0_7 : _ = q_14 := (k_15.1 (nm 0 7) (by first | rfl | exact inN_one (by omega))).trans ha_nm_0_7
  have hc_nm_0_3 := (k_15.2.1 (nm 0 3) (by first | rfl | exact inN_one (by omega)) (by first | rfl | exact inN_one (by omega))).trans hc_nm_0_3
  have hc_nm_0_4 := (k_15.2.1 (nm 0 4) (by first | rfl | exact inN_one (by omega)) (by first | rfl | exact inN_one (by omega))).trans hc_nm_0_4
  have hc_nm_0_5 := (k_15.2.1 (nm 0 5) (by first | rfl | exact inN_one (by omega)) (by first | rfl | exact inN_one (by omega))).trans hc_nm_0_5
  have hc_nm_0_6 := (k_15.2.1 (nm 0 6) (by first | rfl | exact inN_one (by omega)) (by first | rfl | exact inN_one (by omega))).trans hc_nm_0_6
  have hM := k_15.2.2 hM
  have hP := hP.call k_15 (fun _ h => inN_sub rfl rfl h) (fun _ h g => by first | exact inN_sub rfl rfl g | exact inN_sub rfl rfl h)
  refine c_putF (i := nm 0 3) (ty := tyX2 2) (fs1 := [.ref q_9, .ref q_11, .ref q_14, .int 0, .int 0, .int 0]) X hw hS ha_nm_0_3 hc_nm_0_3 rfl gX2 tyX2 tyX2_ok nmX2 2 (by decide) fl_X2_27 rfl rfl hnm rfl (tyX2_ok 2 (by decide)) rfl rfl (show 2 < 6 by decide) rfl dX2_init_32 (fun M_16 H locs u_16 hw hS => ?_)
  have hc_nm_0_3 := u_16.1
  have hc_nm_0_4 := (u_16.2.1 (nm 0 4) (nm_ne2 (by omega))).trans hc_nm_0_4
  have hc_nm_0_5 := (u_16.2.1 (nm 0 5) (nm_ne2 (by omega))).trans hc_nm_0_5
  have hc_nm_0_6 := (u_16.2.1 (nm 0 6) (nm_ne2 (by omega))).trans hc_nm_0_6
  have hc_nm_0_7 := (u_16.2.1 (nm 0 7) (nm_ne2 (by omega))).trans hc_nm_0_7
  have hc_nm_0_8 := (u_16.2.1 (nm 0 8) (nm_ne2 (by omega))).trans hc_nm_0_8
  have hc_nm_0_9 := (u_16.2.1 (nm 0 9) (nm_ne2 (by omega))).trans hc_nm_0_9
  have hM := u_16.2.2 hM
  have hP := hP.up u_16 (by first | rfl | simp [inN])
  refine lv_iconst (v := 0) hx hb dX2_init_35 (by decide) ?_
  refine lv_istore_n (lv' := [(1, .int 0), (0, .ref r0)]) hx hb dX2_init_36 rfl hl (by decide) rfl (fun ls hl => ?_)
  refine W.widen (k := 6) (n := 79) (Nat.le_of_ble_eq_true rfl) (Nat.le_of_ble_eq_true rfl) ?_
  exact KL 40 0 _ _ _ _ _ _ ls rfl rfl hP hM ha_nm_0_3 (by rw [ha_nm_0_4, ha_nm_0_5, ha_nm_0_7]; exact hc_nm_0_3) (by rw [ha_nm_0_6]; exact hc_nm_0_5) (by exact hc_nm_0_6) (by exact hc_nm_0_7) (by exact hc_nm_0_8) (by exact hc_nm_0_9) hc_nm_0_4 (aIn.zero) hw hS hl
theorem i_X9_init : mIm yX9_init cX9_init 1 0 := ⟨cd_X9_init, im_X9_init, ini_X9, rfl, by decide, by decide, by decide +kernel⟩
set_option maxHeartbeats 4000000 in
set_option maxRecDepth 100000 in
theorem k_X9_init (Γ : mG) (l : Launch) (L : mI → Nat) (M : mM)   (r0 : Nat) (ha_s : L (nm 0 0) = r0) (hc_s : mget M (nm 0 0) = some (.inr (7, [.null, .null, .null]))) (hM : 0 < M.2.length)  : mMet Γ l yX9_init cX9_init 1 none { frames := 4, cells := 100, slots := 1679, locals := 73 } [.ref r0] L M (mQv Γ (fun L1 M1 => cP L M L1 M1 (inN [(0, 1), (0, 2), (0, 3), (0, 4), (0, 5), (0, 6), (0, 7), (0, 8), (0, 9), (0, 10), (0, 11), (0, 12), (0, 13), (0, 14), (0, 15), (0, 16), (0, 17), (0, 18), (0, 19), (0, 20)] [1]) (inN [(0, 0)] []) ∧ mget M1 (nm 0 0) = some (.inr (7, [.ref (L1 (nm 0 1)), .ref (L1 (nm 0 3)), .ref (L1 (nm 0 10))])) ∧ mget M1 (nm 0 1) = some (.inr (5, [.ref (L1 (nm 0 2)), .int 0])) ∧ mget M1 (nm 0 2) = some (.inl (Γ.2.1 3, 8, .inr (.inr (.inr (.inr (fun _ => none)))))) ∧ mget M1 (nm 0 3) = some (.inr (2, [.ref (L1 (nm 0 4)), .ref (L1 (nm 0 5)), .ref (L1 (nm 0 7)), .int 0, .int 0, .int 0])) ∧ mget M1 (nm 0 5) = some (.inr (4, [.ref (L1 (nm 0 6)), .int (-1)])) ∧ mget M1 (nm 0 6) = some (.inl (Γ.2.1 0, 16, .inl (fun _ => 0))) ∧ mget M1 (nm 0 7) = some (.inr (6, [.ref (L1 (nm 0 8)), .int 0, .int 0])) ∧ mget M1 (nm 0 8) = some (.inr (4, [.ref (L1 (nm 0 9)), .int (-1)])) ∧ mget M1 (nm 0 9) = some (.inl (Γ.2.1 0, 16, .inl (fun _ => 0))) ∧ mget M1 (nm 0 10) = some (.inr (3, [.ref (L1 (nm 0 11)), .ref (L1 (nm 0 16)), .ref (L1 (nm 0 17)), .ref (L1 (nm 0 18)), .ref (L1 (nm 0 19)), .ref (L1 (nm 0 20)), .int 0, .int 0, .int 0, .int 0, .int 0, .int 0, .int (-99999999), .int (-99999999)])) ∧ mget M1 (nm 0 11) = some (.inr (1, [.ref (L1 (nm 0 12)), .ref (L1 (nm 0 13)), .ref (L1 (nm 0 14)), .ref (L1 (nm 0 15)), .int 0])) ∧ mget M1 (nm 0 12) = some (.inl (Γ.2.1 0, 21, .inl (fun _ => 0))) ∧ mget M1 (nm 0 13) = some (.inl (Γ.2.1 0, 21, .inl (fun _ => 0))) ∧ mget M1 (nm 0 14) = some (.inl (Γ.2.1 0, 21, .inl (fun _ => 0))) ∧ mget M1 (nm 0 15) = some (.inl (Γ.2.1 0, 630, .inl (fun _ => 0))) ∧ mget M1 (nm 0 16) = some (.inl (Γ.2.1 3, 8, .inr (.inr (.inr (.inr (fun _ => none)))))) ∧ mget M1 (nm 0 17) = some (.inl (Γ.2.1 0, 8, .inl (fun _ => 0))) ∧ mget M1 (nm 0 18) = some (.inl (Γ.2.1 0, 8, .inl (fun _ => 0))) ∧ mget M1 (nm 0 19) = some (.inl (Γ.2.1 1, 64, .inr (.inl (fun _ => 0)))) ∧ mget M1 (nm 0 20) = some (.inl (Γ.2.1 1, 64, .inr (.inl (fun _ => 0)))) ∧ aOK Γ L1 M1)) := by
  refine m_start (by decide) (Nat.le_of_ble_eq_true rfl) ?_
  intro p e s m args below meth c A ls X hr hlk hnm hw hS hl
  have hx := X.1.1
  have hb := X.1.2.1
  have hP : cP L M L M (inN [(0, 1), (0, 2), (0, 3), (0, 4), (0, 5), (0, 6), (0, 7), (0, 8), (0, 9), (0, 10), (0, 11), (0, 12), (0, 13), (0, 14), (0, 15), (0, 16), (0, 17), (0, 18), (0, 19), (0, 20)] [1]) (inN [(0, 0)] []) := cP.rf
  have hc_nm_0_0 := hc_s
  have hl : lv_has ls 1 [(0, .ref r0)] := hl
  refine lv_aload_n hx hb dX9_init_0 rfl (lv_at hl 0 rfl) ?_
  refine c_objInit X ml_X9_1 hl.1 dX9_init_1 (Nat.le_of_ble_eq_true rfl) (Nat.le_of_ble_eq_true rfl) ?_
  refine lv_aload_n hx hb dX9_init_4 rfl (lv_at hl 0 rfl) ?_
  refine c_new (ci := 5) (fs := [.null, .int 0]) X hw hS hM 0 1 rfl gX7 tyX7 tyX7_ok cl_X9_7 ins_X7 ini_X7 dvX7 (Nat.le_of_ble_eq_true rfl) (Nat.le_of_ble_eq_true rfl) dX9_init_5 (fun q_1 L_1 M_1 H hq_1 hL_1 u_1 hw hS => ?_)
  have hc_nm_0_1 := u_1.1
  have ha_nm_0_1 := hq_1
  have hc_nm_0_0 := (u_1.2.1 (nm 0 0) (nm_ne2 (by omega))).trans hc_nm_0_0
  have ha_nm_0_0 : _ = r0 := (hL_1 (nm 0 0) (nm_ne2 (by omega))).trans ha_s
  have hM := u_1.2.2 hM
  have hP := hP.new u_1 hL_1 (by first | rfl | simp [inN])
  refine lv_dup hx hb dX9_init_8 rfl ?_
  refine m_callv (m_runIN (host := "KindJudge") (As := []) (rest := [.ref q_1, .ref r0]) X (k_X7_init Γ l L_1 M_1 q_1 ha_nm_0_1 hc_nm_0_1 hM) i_X7_init nest_X9_9 hw hS rfl hl.1 ⟨Nat.le_of_ble_eq_true rfl, Nat.le_of_ble_eq_true rfl⟩ (Nat.le_of_ble_eq_true rfl) ⟨Nat.le_of_ble_eq_true rfl, Nat.le_of_ble_eq_true rfl⟩ dX9_init_9) hS (fun L_2 M_2 H locs hp_2 hw hS => ?_)
  obtain ⟨k_2, hc_nm_0_1, hc_nm_0_2⟩ := hp_2
  have ha_nm_0_0 : _ = r0 := (k_2.1 (nm 0 0) (by first | rfl | exact inN_one (by omega))).trans ha_nm_0_0
  have ha_nm_0_1 : _ = q_1 := (k_2.1 (nm 0 1) (by first | rfl | exact inN_one (by omega))).trans ha_nm_0_1
  have hc_nm_0_0 := (k_2.2.1 (nm 0 0) (by first | rfl | exact inN_one (by omega)) (by first | rfl | exact inN_one (by omega))).trans hc_nm_0_0
  have hM := k_2.2.2 hM
  have hP := hP.call k_2 (fun _ h => inN_sub rfl rfl h) (fun _ h g => by first | exact inN_sub rfl rfl g | exact inN_sub rfl rfl h)
  refine c_putF (i := nm 0 0) (ty := tyX9 0) (fs1 := [.ref q_1, .null, .null]) X hw hS ha_nm_0_0 hc_nm_0_0 rfl gX9 tyX9 tyX9_ok nmX9 0 (by decide) fl_X9_10 rfl rfl hnm rfl (tyX9_ok 0 (by decide)) rfl rfl (show 0 < 3 by decide) rfl dX9_init_12 (fun M_3 H locs u_3 hw hS => ?_)
  have hc_nm_0_0 := u_3.1
  have hc_nm_0_1 := (u_3.2.1 (nm 0 1) (nm_ne2 (by omega))).trans hc_nm_0_1
  have hc_nm_0_2 := (u_3.2.1 (nm 0 2) (nm_ne2 (by omega))).trans hc_nm_0_2
  have hM := u_3.2.2 hM
  have hP := hP.up u_3 (by first | rfl | simp [inN])
  refine lv_aload_n hx hb dX9_init_15 rfl (lv_at hl 0 rfl) ?_
  refine c_new (ci := 2) (fs := [.null, .null, .null, .int 0, .int 0, .int 0]) X hw hS hM 0 3 rfl gX2 tyX2 tyX2_ok cl_X9_16 ins_X2 ini_X2 dvX2 (Nat.le_of_ble_eq_true rfl) (Nat.le_of_ble_eq_true rfl) dX9_init_16 (fun q_4 L_4 M_4 H hq_4 hL_4 u_4 hw hS => ?_)
  have hc_nm_0_3 := u_4.1
  have ha_nm_0_3 := hq_4
  have hc_nm_0_0 := (u_4.2.1 (nm 0 0) (nm_ne2 (by omega))).trans hc_nm_0_0
  have hc_nm_0_1 := (u_4.2.1 (nm 0 1) (nm_ne2 (by omega))).trans hc_nm_0_1
  have hc_nm_0_2 := (u_4.2.1 (nm 0 2) (nm_ne2 (by omega))).trans hc_nm_0_2
  have ha_nm_0_0 : _ = r0 := (hL_4 (nm 0 0) (nm_ne2 (by omega))).trans ha_nm_0_0
  have ha_nm_0_1 : _ = q_1 := (hL_4 (nm 0 1) (nm_ne2 (by omega))).trans ha_nm_0_1
  have ha_nm_0_2 : _ = L_2 (nm 0 2) := (hL_4 (nm 0 2) (nm_ne2 (by omega))).trans rfl
  have hM := u_4.2.2 hM
  have hP := hP.new u_4 hL_4 (by first | rfl | simp [inN])
  refine lv_dup hx hb dX9_init_19 rfl ?_
  refine m_callv (m_runI (As := []) (rest := [.ref q_4, .ref r0]) X (k_X2_init Γ l L_4 M_4 q_4 ha_nm_0_3 hc_nm_0_3 hM) i_X2_init ml_X9_18 hw hS rfl hl.1 ⟨Nat.le_of_ble_eq_true rfl, Nat.le_of_ble_eq_true rfl⟩ (Nat.le_of_ble_eq_true rfl) ⟨Nat.le_of_ble_eq_true rfl, Nat.le_of_ble_eq_true rfl⟩ dX9_init_20) hS (fun L_5 M_5 H locs hp_5 hw hS => ?_)
  obtain ⟨k_5, hc_nm_0_3, hc_nm_0_5, hc_nm_0_6, hc_nm_0_7, hc_nm_0_8, hc_nm_0_9, hall⟩ := hp_5
  have ha_nm_0_0 : _ = r0 := (k_5.1 (nm 0 0) (by first | rfl | exact inN_one (by omega))).trans ha_nm_0_0
  have ha_nm_0_1 : _ = q_1 := (k_5.1 (nm 0 1) (by first | rfl | exact inN_one (by omega))).trans ha_nm_0_1
  have ha_nm_0_2 : _ = L_2 (nm 0 2) := (k_5.1 (nm 0 2) (by first | rfl | exact inN_one (by omega))).trans ha_nm_0_2
  have ha_nm_0_3 : _ = q_4 := (k_5.1 (nm 0 3) (by first | rfl | exact inN_one (by omega))).trans ha_nm_0_3
  have hc_nm_0_0 := (k_5.2.1 (nm 0 0) (by first | rfl | exact inN_one (by omega)) (by first | rfl | exact inN_one (by omega))).trans hc_nm_0_0
  have hc_nm_0_1 := (k_5.2.1 (nm 0 1) (by first | rfl | exact inN_one (by omega)) (by first | rfl | exact inN_one (by omega))).trans hc_nm_0_1
  have hc_nm_0_2 := (k_5.2.1 (nm 0 2) (by first | rfl | exact inN_one (by omega)) (by first | rfl | exact inN_one (by omega))).trans hc_nm_0_2
  have hM := k_5.2.2 hM
  have hP := hP.call k_5 (fun _ h => inN_sub rfl rfl h) (fun _ h g => by first | exact inN_sub rfl rfl g | exact inN_sub rfl rfl h)
  have hP2 : cP L_5 M_5 L_5 M_5 (inN [(0, 10), (0, 11), (0, 12), (0, 13), (0, 14), (0, 15), (0, 16), (0, 17), (0, 18), (0, 19), (0, 20)] []) (inN [(0, 0)] []) := cP.rf
  refine c_putF (i := nm 0 0) (ty := tyX9 1) (fs1 := [.ref q_1, .ref q_4, .null]) X hw hS ha_nm_0_0 hc_nm_0_0 rfl gX9 tyX9 tyX9_ok nmX9 1 (by decide) fl_X9_19 rfl rfl hnm rfl (tyX9_ok 1 (by decide)) rfl rfl (show 1 < 3 by decide) rfl dX9_init_23 (fun M_6 H locs u_6 hw hS => ?_)
  have hc_nm_0_0 := u_6.1
  have hc_nm_0_1 := (u_6.2.1 (nm 0 1) (nm_ne2 (by omega))).trans hc_nm_0_1
  have hc_nm_0_2 := (u_6.2.1 (nm 0 2) (nm_ne2 (by omega))).trans hc_nm_0_2
  have hc_nm_0_3 := (u_6.2.1 (nm 0 3) (nm_ne2 (by omega))).trans hc_nm_0_3
  have hc_nm_0_5 := (u_6.2.1 (nm 0 5) (nm_ne2 (by omega))).trans hc_nm_0_5
  have hc_nm_0_6 := (u_6.2.1 (nm 0 6) (nm_ne2 (by omega))).trans hc_nm_0_6
  have hc_nm_0_7 := (u_6.2.1 (nm 0 7) (nm_ne2 (by omega))).trans hc_nm_0_7
  have hc_nm_0_8 := (u_6.2.1 (nm 0 8) (nm_ne2 (by omega))).trans hc_nm_0_8
  have hc_nm_0_9 := (u_6.2.1 (nm 0 9) (nm_ne2 (by omega))).trans hc_nm_0_9
  have hM := u_6.2.2 hM
  have hP := hP.up u_6 (by first | rfl | simp [inN])
  have hP2 := hP2.up u_6 (by first | rfl | simp [inN])
  refine lv_aload_n hx hb dX9_init_26 rfl (lv_at hl 0 rfl) ?_
  refine c_new (ci := 3) (fs := [.null, .null, .null, .null, .null, .null, .int 0, .int 0, .int 0, .int 0, .int 0, .int 0, .int 0, .int 0]) X hw hS hM 0 10 rfl gX4 tyX4 tyX4_ok cl_X9_23 ins_X4 ini_X4 dvX4 (Nat.le_of_ble_eq_true rfl) (Nat.le_of_ble_eq_true rfl) dX9_init_27 (fun q_7 L_7 M_7 H hq_7 hL_7 u_7 hw hS => ?_)
  have hc_nm_0_10 := u_7.1
  have ha_nm_0_10 := hq_7
  have hc_nm_0_0 := (u_7.2.1 (nm 0 0) (nm_ne2 (by omega))).trans hc_nm_0_0
  have hc_nm_0_1 := (u_7.2.1 (nm 0 1) (nm_ne2 (by omega))).trans hc_nm_0_1
  have hc_nm_0_2 := (u_7.2.1 (nm 0 2) (nm_ne2 (by omega))).trans hc_nm_0_2
  have hc_nm_0_3 := (u_7.2.1 (nm 0 3) (nm_ne2 (by omega))).trans hc_nm_0_3
  have hc_nm_0_5 := (u_7.2.1 (nm 0 5) (nm_ne2 (by omega))).trans hc_nm_0_5
  have hc_nm_0_6 := (u_7.2.1 (nm 0 6) (nm_ne2 (by omega))).trans hc_nm_0_6
  have hc_nm_0_7 := (u_7.2.1 (nm 0 7) (nm_ne2 (by omega))).trans hc_nm_0_7
  have hc_nm_0_8 := (u_7.2.1 (nm 0 8) (nm_ne2 (by omega))).trans hc_nm_0_8
  have hc_nm_0_9 := (u_7.2.1 (nm 0 9) (nm_ne2 (by omega))).trans hc_nm_0_9
  have ha_nm_0_0 : _ = r0 := (hL_7 (nm 0 0) (nm_ne2 (by omega))).trans ha_nm_0_0
  have ha_nm_0_1 : _ = q_1 := (hL_7 (nm 0 1) (nm_ne2 (by omega))).trans ha_nm_0_1
  have ha_nm_0_2 : _ = L_2 (nm 0 2) := (hL_7 (nm 0 2) (nm_ne2 (by omega))).trans ha_nm_0_2
  have ha_nm_0_3 : _ = q_4 := (hL_7 (nm 0 3) (nm_ne2 (by omega))).trans ha_nm_0_3
  have ha_nm_0_4 : _ = L_5 (nm 0 4) := (hL_7 (nm 0 4) (nm_ne2 (by omega))).trans rfl
  have ha_nm_0_5 : _ = L_5 (nm 0 5) := (hL_7 (nm 0 5) (nm_ne2 (by omega))).trans rfl
  have ha_nm_0_7 : _ = L_5 (nm 0 7) := (hL_7 (nm 0 7) (nm_ne2 (by omega))).trans rfl
  have ha_nm_0_6 : _ = L_5 (nm 0 6) := (hL_7 (nm 0 6) (nm_ne2 (by omega))).trans rfl
  have ha_nm_0_8 : _ = L_5 (nm 0 8) := (hL_7 (nm 0 8) (nm_ne2 (by omega))).trans rfl
  have ha_nm_0_9 : _ = L_5 (nm 0 9) := (hL_7 (nm 0 9) (nm_ne2 (by omega))).trans rfl
  have hM := u_7.2.2 hM
  have hP := hP.new u_7 hL_7 (by first | rfl | simp [inN])
  have hP2 := hP2.new u_7 hL_7 (by first | rfl | simp [inN])
  refine lv_dup hx hb dX9_init_30 rfl ?_
  refine m_callv (m_runIN (host := "KindJudge") (As := []) (rest := [.ref q_7, .ref r0]) X (k_X4_init Γ l L_7 M_7 q_7 ha_nm_0_10 hc_nm_0_10 hM) i_X4_init nest_X9_25 hw hS rfl hl.1 ⟨Nat.le_of_ble_eq_true rfl, Nat.le_of_ble_eq_true rfl⟩ (Nat.le_of_ble_eq_true rfl) ⟨Nat.le_of_ble_eq_true rfl, Nat.le_of_ble_eq_true rfl⟩ dX9_init_31) hS (fun L_8 M_8 H locs hp_8 hw hS => ?_)
  obtain ⟨k_8, hc_nm_0_10, hc_nm_0_11, hc_nm_0_12, hc_nm_0_13, hc_nm_0_14, hc_nm_0_15, hc_nm_0_16, hc_nm_0_17, hc_nm_0_18, hc_nm_0_19, hc_nm_0_20⟩ := hp_8
  have ha_nm_0_0 : _ = r0 := (k_8.1 (nm 0 0) (by first | rfl | exact inN_one (by omega))).trans ha_nm_0_0
  have ha_nm_0_1 : _ = q_1 := (k_8.1 (nm 0 1) (by first | rfl | exact inN_one (by omega))).trans ha_nm_0_1
  have ha_nm_0_2 : _ = L_2 (nm 0 2) := (k_8.1 (nm 0 2) (by first | rfl | exact inN_one (by omega))).trans ha_nm_0_2
  have ha_nm_0_3 : _ = q_4 := (k_8.1 (nm 0 3) (by first | rfl | exact inN_one (by omega))).trans ha_nm_0_3
  have ha_nm_0_4 : _ = L_5 (nm 0 4) := (k_8.1 (nm 0 4) (by first | rfl | exact inN_one (by omega))).trans ha_nm_0_4
  have ha_nm_0_5 : _ = L_5 (nm 0 5) := (k_8.1 (nm 0 5) (by first | rfl | exact inN_one (by omega))).trans ha_nm_0_5
  have ha_nm_0_7 : _ = L_5 (nm 0 7) := (k_8.1 (nm 0 7) (by first | rfl | exact inN_one (by omega))).trans ha_nm_0_7
  have ha_nm_0_6 : _ = L_5 (nm 0 6) := (k_8.1 (nm 0 6) (by first | rfl | exact inN_one (by omega))).trans ha_nm_0_6
  have ha_nm_0_8 : _ = L_5 (nm 0 8) := (k_8.1 (nm 0 8) (by first | rfl | exact inN_one (by omega))).trans ha_nm_0_8
  have ha_nm_0_9 : _ = L_5 (nm 0 9) := (k_8.1 (nm 0 9) (by first | rfl | exact inN_one (by omega))).trans ha_nm_0_9
  have ha_nm_0_10 : _ = q_7 := (k_8.1 (nm 0 10) (by first | rfl | exact inN_one (by omega))).trans ha_nm_0_10
  have hc_nm_0_0 := (k_8.2.1 (nm 0 0) (by first | rfl | exact inN_one (by omega)) (by first | rfl | exact inN_one (by omega))).trans hc_nm_0_0
  have hc_nm_0_1 := (k_8.2.1 (nm 0 1) (by first | rfl | exact inN_one (by omega)) (by first | rfl | exact inN_one (by omega))).trans hc_nm_0_1
  have hc_nm_0_2 := (k_8.2.1 (nm 0 2) (by first | rfl | exact inN_one (by omega)) (by first | rfl | exact inN_one (by omega))).trans hc_nm_0_2
  have hc_nm_0_3 := (k_8.2.1 (nm 0 3) (by first | rfl | exact inN_one (by omega)) (by first | rfl | exact inN_one (by omega))).trans hc_nm_0_3
  have hc_nm_0_5 := (k_8.2.1 (nm 0 5) (by first | rfl | exact inN_one (by omega)) (by first | rfl | exact inN_one (by omega))).trans hc_nm_0_5
  have hc_nm_0_6 := (k_8.2.1 (nm 0 6) (by first | rfl | exact inN_one (by omega)) (by first | rfl | exact inN_one (by omega))).trans hc_nm_0_6
  have hc_nm_0_7 := (k_8.2.1 (nm 0 7) (by first | rfl | exact inN_one (by omega)) (by first | rfl | exact inN_one (by omega))).trans hc_nm_0_7
  have hc_nm_0_8 := (k_8.2.1 (nm 0 8) (by first | rfl | exact inN_one (by omega)) (by first | rfl | exact inN_one (by omega))).trans hc_nm_0_8
  have hc_nm_0_9 := (k_8.2.1 (nm 0 9) (by first | rfl | exact inN_one (by omega)) (by first | rfl | exact inN_one (by omega))).trans hc_nm_0_9
  have hM := k_8.2.2 hM
  have hP := hP.call k_8 (fun _ h => inN_sub rfl rfl h) (fun _ h g => by first | exact inN_sub rfl rfl g | exact inN_sub rfl rfl h)
  have hP2 := hP2.call k_8 (fun _ h => inN_sub rfl rfl h) (fun _ h g => by first | exact inN_sub rfl rfl g | exact inN_sub rfl rfl h)
  refine c_putF (i := nm 0 0) (ty := tyX9 2) (fs1 := [.ref q_1, .ref q_4, .ref q_7]) X hw hS ha_nm_0_0 hc_nm_0_0 rfl gX9 tyX9 tyX9_ok nmX9 2 (by decide) fl_X9_26 rfl rfl hnm rfl (tyX9_ok 2 (by decide)) rfl rfl (show 2 < 3 by decide) rfl dX9_init_34 (fun M_9 H locs u_9 hw hS => ?_)
  have hc_nm_0_0 := u_9.1
  have hc_nm_0_1 := (u_9.2.1 (nm 0 1) (nm_ne2 (by omega))).trans hc_nm_0_1
  have hc_nm_0_2 := (u_9.2.1 (nm 0 2) (nm_ne2 (by omega))).trans hc_nm_0_2
  have hc_nm_0_3 := (u_9.2.1 (nm 0 3) (nm_ne2 (by omega))).trans hc_nm_0_3
  have hc_nm_0_5 := (u_9.2.1 (nm 0 5) (nm_ne2 (by omega))).trans hc_nm_0_5
  have hc_nm_0_6 := (u_9.2.1 (nm 0 6) (nm_ne2 (by omega))).trans hc_nm_0_6
  have hc_nm_0_7 := (u_9.2.1 (nm 0 7) (nm_ne2 (by omega))).trans hc_nm_0_7
  have hc_nm_0_8 := (u_9.2.1 (nm 0 8) (nm_ne2 (by omega))).trans hc_nm_0_8
  have hc_nm_0_9 := (u_9.2.1 (nm 0 9) (nm_ne2 (by omega))).trans hc_nm_0_9
  have hc_nm_0_10 := (u_9.2.1 (nm 0 10) (nm_ne2 (by omega))).trans hc_nm_0_10
  have hc_nm_0_11 := (u_9.2.1 (nm 0 11) (nm_ne2 (by omega))).trans hc_nm_0_11
  have hc_nm_0_12 := (u_9.2.1 (nm 0 12) (nm_ne2 (by omega))).trans hc_nm_0_12
  have hc_nm_0_13 := (u_9.2.1 (nm 0 13) (nm_ne2 (by omega))).trans hc_nm_0_13
  have hc_nm_0_14 := (u_9.2.1 (nm 0 14) (nm_ne2 (by omega))).trans hc_nm_0_14
  have hc_nm_0_15 := (u_9.2.1 (nm 0 15) (nm_ne2 (by omega))).trans hc_nm_0_15
  have hc_nm_0_16 := (u_9.2.1 (nm 0 16) (nm_ne2 (by omega))).trans hc_nm_0_16
  have hc_nm_0_17 := (u_9.2.1 (nm 0 17) (nm_ne2 (by omega))).trans hc_nm_0_17
  have hc_nm_0_18 := (u_9.2.1 (nm 0 18) (nm_ne2 (by omega))).trans hc_nm_0_18
  have hc_nm_0_19 := (u_9.2.1 (nm 0 19) (nm_ne2 (by omega))).trans hc_nm_0_19
  have hc_nm_0_20 := (u_9.2.1 (nm 0 20) (nm_ne2 (by omega))).trans hc_nm_0_20
  have hM := u_9.2.2 hM
  have hP := hP.up u_9 (by first | rfl | simp [inN])
  have hP2 := hP2.up u_9 (by first | rfl | simp [inN])
  exact m_vret X hr hlk hw hS (Nat.le_of_ble_eq_true rfl) (Nat.le_of_ble_eq_true rfl) ⟨hP, by rw [ha_nm_0_1, ha_nm_0_3, ha_nm_0_10]; exact hc_nm_0_0, by rw [ha_nm_0_2]; exact hc_nm_0_1, by exact hc_nm_0_2, by rw [ha_nm_0_4, ha_nm_0_5, ha_nm_0_7]; exact hc_nm_0_3, by rw [ha_nm_0_6]; exact hc_nm_0_5, by exact hc_nm_0_6, by rw [ha_nm_0_8]; exact hc_nm_0_7, by rw [ha_nm_0_9]; exact hc_nm_0_8, by exact hc_nm_0_9, by exact hc_nm_0_10, by exact hc_nm_0_11, by exact hc_nm_0_12, by exact hc_nm_0_13, by exact hc_nm_0_14, by exact hc_nm_0_15, by exact hc_nm_0_16, by exact hc_nm_0_17, by exact hc_nm_0_18, by exact hc_nm_0_19, by exact hc_nm_0_20, aOK.keep hall hP2⟩ dX9_init_37
