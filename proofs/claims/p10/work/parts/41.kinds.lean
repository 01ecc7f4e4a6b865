/-! THE CLASS'S KINDS, as functions -/
def k_obj (k : Int32) : Bool := !decide (k < 10) && !decide (17 < k)
def k_row (k : Int32) : Bool := !decide (k < 21) && !decide (25 < k)
def k_unm (k : Int32) : Bool := !decide (k < 100) && !decide (140 ≤ k)
def k_kind (k : Int32) : Bool := (!decide (k < 0) && decide (k ≤ 5)) || (k_obj k || (k_row k || k_unm k))
def k_ref (k : Int32) : Bool := !decide (k < 5) && !decide (100 ≤ k)
def k_und (a b : Int32) : Bool := if a < 0 ∨ 7 < a ∨ b < 0 ∨ ¬ b ≤ 7 then false else decide (mUN a.toNatClampNeg >>> (b &&& 31) &&& 1 = 1)
def k_goes (x y : Int32) : Bool := if x = y ∨ y = 0 then true else if x = 4 then k_ref y else if k_obj y = true then (if y = 10 ∨ ¬ y ≤ 15 then k_ref x else (k_obj x && k_und (x - 10) (y - 10))) else (k_row x && (k_row y && k_und (x - 20) (y - 20)))
def k_sh : Nat → Int32 → Int32 → Int32
  | 0, _, _ => 0
  | n + 1, s, y => if s ≤ 0 ∨ 7 < s then 0 else if ¬ 5 < s ∧ k_und y s = true then s else k_sh n (mAB s.toNatClampNeg) y
def k_shared (x y : Int32) : Int32 := k_sh 5 x y
def k_join3 (x y : Int32) : Int32 := if (k_ref x && k_ref y) = true then 10 else 0
def k_join2 (x y : Int32) : Int32 := if (k_row x && k_row y) = true then 20 + k_shared (x - 20) (y - 20) else k_join3 x y
def k_join1 (x y : Int32) : Int32 := if (k_obj x && k_obj y) = true then 10 + k_shared (x - 10) (y - 10) else k_join2 x y
def k_join (x y : Int32) : Int32 := if x = y then x else if x = 4 ∧ k_ref y = true then y else if y = 4 ∧ k_ref x = true then x else k_join1 x y
theorem vp_nl {x : Int32} (h : ¬ x ≤ 0) : ¬ x < 0 := fun z => h (Int32.le_of_lt z)
theorem vp_in8 {x : Int32} (h1 : ¬ x < 0) (h2 : ¬ 7 < x) : vp_in x 8 := by
  unfold vp_in
  intro h
  rcases h with h | h
  · exact h1 h
  · apply h2
    rw [Int32.lt_iff_toInt_lt] at h1 ⊢
    have e7 : (7 : Int32).toInt = 7 := by decide
    have e0 : (0 : Int32).toInt = 0 := by decide
    have ec : (x.toNatClampNeg : Int) = x.toInt := by
      have := Int32.toNatClampNeg_eq_zero_iff (n := x)
      show ((x.toInt.toNat : Nat) : Int) = x.toInt
      omega
    omega
theorem s_X3_isObject : mSm yX3_isObject cX3_isObject 1 (some .boolean) 1 := ⟨cd_X3_isObject, st_X3_isObject, ini_X3, by decide, by decide, by decide +kernel⟩
set_option maxHeartbeats 4000000 in
set_option maxRecDepth 100000 in
theorem k_X3_isObject (Γ : mG) (l : Launch) (L : mI → Nat) (M : mM) (a : Int32)  : mMet Γ l yX3_isObject cX3_isObject 1 (some .boolean) { frames := 0, cells := 0, slots := 0, locals := 0 } [.int a] L M (mQi Γ (fun r L1 M1 => r = bI (k_obj a) ∧ L1 = L ∧ M1 = M)) := by
  refine m_start (by decide) (Nat.le_of_ble_eq_true rfl) ?_
  intro p e s m args below meth c A ls X hr hlk hnm hw hS hl
  have hx := X.1.1
  have hb := X.1.2.1
  have hl : lv_has ls 1 [(0, .int a)] := hl
  refine lv_iload_n hx hb dX3_isObject_0 rfl (lv_at hl 0 rfl) ?_
  refine lv_bipush (v := 10) hx hb dX3_isObject_1 (by decide) ?_
  refine lv_icmp_lt (tgt := 16) hx hb dX3_isObject_3 (by decide) (fun c_1 => ?_) (fun c_1 => ?_)
  · skip
    refine lv_iconst (v := 0) hx hb dX3_isObject_16 (by decide) ?_
    exact m_zret (b := k_obj a) X hr hlk hw hS (Nat.zero_le _) (Nat.zero_le _) (by clear hb hx hl hS hw hnm hlk hr X; first | rfl | (simp_all [bI, k_obj]; done) | (simp_all [bI, k_obj]; rfl)) (⟨rfl, rfl, rfl⟩) dX3_isObject_17
  · skip
    refine lv_iload_n hx hb dX3_isObject_6 rfl (lv_at hl 0 rfl) ?_
    refine lv_bipush (v := 17) hx hb dX3_isObject_7 (by decide) ?_
    refine lv_icmp_gt (tgt := 16) hx hb dX3_isObject_9 (by decide) (fun c_2 => ?_) (fun c_2 => ?_)
    · skip
      refine lv_iconst (v := 0) hx hb dX3_isObject_16 (by decide) ?_
      exact m_zret (b := k_obj a) X hr hlk hw hS (Nat.zero_le _) (Nat.zero_le _) (by clear hb hx hl hS hw hnm hlk hr X; first | rfl | (simp_all [bI, k_obj]; done) | (simp_all [bI, k_obj]; rfl)) (⟨rfl, rfl, rfl⟩) dX3_isObject_17
    · skip
      refine lv_iconst (v := 1) hx hb dX3_isObject_12 (by decide) ?_
      refine lv_goto (tgt := 17) hx hb dX3_isObject_13 (by decide) ?_
      exact m_zret (b := k_obj a) X hr hlk hw hS (Nat.zero_le _) (Nat.zero_le _) (by clear hb hx hl hS hw hnm hlk hr X; first | rfl | (simp_all [bI, k_obj]; done) | (simp_all [bI, k_obj]; rfl)) (⟨rfl, rfl, rfl⟩) dX3_isObject_17
theorem s_X3_isRow : mSm yX3_isRow cX3_isRow 1 (some .boolean) 1 := ⟨cd_X3_isRow, st_X3_isRow, ini_X3, by decide, by decide, by decide +kernel⟩
set_option maxHeartbeats 4000000 in
set_option maxRecDepth 100000 in
theorem k_X3_isRow (Γ : mG) (l : Launch) (L : mI → Nat) (M : mM) (a : Int32)  : mMet Γ l yX3_isRow cX3_isRow 1 (some .boolean) { frames := 0, cells := 0, slots := 0, locals := 0 } [.int a] L M (mQi Γ (fun r L1 M1 => r = bI (k_row a) ∧ L1 = L ∧ M1 = M)) := by
  refine m_start (by decide) (Nat.le_of_ble_eq_true rfl) ?_
  intro p e s m args below meth c A ls X hr hlk hnm hw hS hl
  have hx := X.1.1
  have hb := X.1.2.1
  have hl : lv_has ls 1 [(0, .int a)] := hl
  refine lv_iload_n hx hb dX3_isRow_0 rfl (lv_at hl 0 rfl) ?_
  refine lv_bipush (v := 21) hx hb dX3_isRow_1 (by decide) ?_
  refine lv_icmp_lt (tgt := 16) hx hb dX3_isRow_3 (by decide) (fun c_1 => ?_) (fun c_1 => ?_)
  · skip
    refine lv_iconst (v := 0) hx hb dX3_isRow_16 (by decide) ?_
    exact m_zret (b := k_row a) X hr hlk hw hS (Nat.zero_le _) (Nat.zero_le _) (by clear hb hx hl hS hw hnm hlk hr X; first | rfl | (simp_all [bI, k_row]; done) | (simp_all [bI, k_row]; rfl)) (⟨rfl, rfl, rfl⟩) dX3_isRow_17
  · skip
    refine lv_iload_n hx hb dX3_isRow_6 rfl (lv_at hl 0 rfl) ?_
    refine lv_bipush (v := 25) hx hb dX3_isRow_7 (by decide) ?_
    refine lv_icmp_gt (tgt := 16) hx hb dX3_isRow_9 (by decide) (fun c_2 => ?_) (fun c_2 => ?_)
    · skip
      refine lv_iconst (v := 0) hx hb dX3_isRow_16 (by decide) ?_
      exact m_zret (b := k_row a) X hr hlk hw hS (Nat.zero_le _) (Nat.zero_le _) (by clear hb hx hl hS hw hnm hlk hr X; first | rfl | (simp_all [bI, k_row]; done) | (simp_all [bI, k_row]; rfl)) (⟨rfl, rfl, rfl⟩) dX3_isRow_17
    · skip
      refine lv_iconst (v := 1) hx hb dX3_isRow_12 (by decide) ?_
      refine lv_goto (tgt := 17) hx hb dX3_isRow_13 (by decide) ?_
      exact m_zret (b := k_row a) X hr hlk hw hS (Nat.zero_le _) (Nat.zero_le _) (by clear hb hx hl hS hw hnm hlk hr X; first | rfl | (simp_all [bI, k_row]; done) | (simp_all [bI, k_row]; rfl)) (⟨rfl, rfl, rfl⟩) dX3_isRow_17
theorem s_X3_isUnmade : mSm yX3_isUnmade cX3_isUnmade 1 (some .boolean) 1 := ⟨cd_X3_isUnmade, st_X3_isUnmade, ini_X3, by decide, by decide, by decide +kernel⟩
set_option maxHeartbeats 4000000 in
set_option maxRecDepth 100000 in
theorem k_X3_isUnmade (Γ : mG) (l : Launch) (L : mI → Nat) (M : mM) (a : Int32)  : mMet Γ l yX3_isUnmade cX3_isUnmade 1 (some .boolean) { frames := 0, cells := 0, slots := 0, locals := 0 } [.int a] L M (mQi Γ (fun r L1 M1 => r = bI (k_unm a) ∧ L1 = L ∧ M1 = M)) := by
  refine m_start (by decide) (Nat.le_of_ble_eq_true rfl) ?_
  intro p e s m args below meth c A ls X hr hlk hnm hw hS hl
  have hx := X.1.1
  have hb := X.1.2.1
  have hl : lv_has ls 1 [(0, .int a)] := hl
  refine lv_iload_n hx hb dX3_isUnmade_0 rfl (lv_at hl 0 rfl) ?_
  refine lv_bipush (v := 100) hx hb dX3_isUnmade_1 (by decide) ?_
  refine lv_icmp_lt (tgt := 17) hx hb dX3_isUnmade_3 (by decide) (fun c_1 => ?_) (fun c_1 => ?_)
  · skip
    refine lv_iconst (v := 0) hx hb dX3_isUnmade_17 (by decide) ?_
    exact m_zret (b := k_unm a) X hr hlk hw hS (Nat.zero_le _) (Nat.zero_le _) (by clear hb hx hl hS hw hnm hlk hr X; first | rfl | (simp_all [bI, k_unm]; done) | (simp_all [bI, k_unm]; rfl)) (⟨rfl, rfl, rfl⟩) dX3_isUnmade_18
  · skip
    refine lv_iload_n hx hb dX3_isUnmade_6 rfl (lv_at hl 0 rfl) ?_
    refine lv_sipush (v := 140) hx hb dX3_isUnmade_7 (by decide) ?_
    refine lv_icmp_ge (tgt := 17) hx hb dX3_isUnmade_10 (by decide) (fun c_2 => ?_) (fun c_2 => ?_)
    · skip
      refine lv_iconst (v := 0) hx hb dX3_isUnmade_17 (by decide) ?_
      exact m_zret (b := k_unm a) X hr hlk hw hS (Nat.zero_le _) (Nat.zero_le _) (by clear hb hx hl hS hw hnm hlk hr X; first | rfl | (simp_all [bI, k_unm]; done) | (simp_all [bI, k_unm]; rfl)) (⟨rfl, rfl, rfl⟩) dX3_isUnmade_18
    · skip
      refine lv_iconst (v := 1) hx hb dX3_isUnmade_13 (by decide) ?_
      refine lv_goto (tgt := 18) hx hb dX3_isUnmade_14 (by decide) ?_
      exact m_zret (b := k_unm a) X hr hlk hw hS (Nat.zero_le _) (Nat.zero_le _) (by clear hb hx hl hS hw hnm hlk hr X; first | rfl | (simp_all [bI, k_unm]; done) | (simp_all [bI, k_unm]; rfl)) (⟨rfl, rfl, rfl⟩) dX3_isUnmade_18
theorem s_X3_isKind : mSm yX3_isKind cX3_isKind 1 (some .boolean) 1 := ⟨cd_X3_isKind, st_X3_isKind, ini_X3, by decide, by decide, by decide +kernel⟩
set_option maxHeartbeats 4000000 in
set_option maxRecDepth 100000 in
theorem k_X3_isKind (Γ : mG) (l : Launch) (L : mI → Nat) (M : mM) (a : Int32)  : mMet Γ l yX3_isKind cX3_isKind 1 (some .boolean) { frames := 1, cells := 0, slots := 0, locals := 20 } [.int a] L M (mQi Γ (fun r L1 M1 => r = bI (k_kind a) ∧ L1 = L ∧ M1 = M)) := by
  refine m_start (by decide) (Nat.le_of_ble_eq_true rfl) ?_
  intro p e s m args below meth c A ls X hr hlk hnm hw hS hl
  have hx := X.1.1
  have hb := X.1.2.1
  have hl : lv_has ls 1 [(0, .int a)] := hl
  refine lv_iload_n hx hb dX3_isKind_0 rfl (lv_at hl 0 rfl) ?_
  refine lv_if_lt (tgt := 9) hx hb dX3_isKind_1 (by decide) (fun c_1 => ?_) (fun c_1 => ?_)
  · skip
    refine lv_iload_n hx hb dX3_isKind_9 rfl (lv_at hl 0 rfl) ?_
    refine m_calli (m_runS (As := [.int a]) (rest := []) X (k_X3_isObject Γ l L (M) a ) s_X3_isObject ml_X3_15 hw hS rfl hl.1 ⟨Nat.le_of_ble_eq_true rfl, Nat.le_of_ble_eq_true rfl⟩ (Nat.le_of_ble_eq_true rfl) ⟨Nat.le_of_ble_eq_true rfl, Nat.le_of_ble_eq_true rfl⟩ dX3_isKind_10) hS (fun r_3 L1 M1 H locs hp_2 hw hS => ?_)
    obtain ⟨rfl, e1, e2⟩ := hp_2
    rw [e1, e2] at hw; clear e1 e2
    refine lv_if_ne (tgt := 30) hx hb dX3_isKind_13 (by decide) (fun c_4 => ?_) (fun c_4 => ?_)
    · skip
      have c_4 := bI_t c_4
      refine lv_iconst (v := 1) hx hb dX3_isKind_30 (by decide) ?_
      refine lv_goto (tgt := 35) hx hb dX3_isKind_31 (by decide) ?_
      exact m_zret (b := k_kind a) X hr hlk hw hS (Nat.zero_le _) (Nat.zero_le _) (by clear hb hx hl hS hw hnm hlk hr X; first | rfl | (simp_all [bI, k_kind]; done) | (simp_all [bI, k_kind]; rfl)) (⟨rfl, rfl, rfl⟩) dX3_isKind_35
    · skip
      have c_4 := bI_f c_4
      refine lv_iload_n hx hb dX3_isKind_16 rfl (lv_at hl 0 rfl) ?_
      refine m_calli (m_runS (As := [.int a]) (rest := []) X (k_X3_isRow Γ l L (M) a ) s_X3_isRow ml_X3_19 hw hS rfl hl.1 ⟨Nat.le_of_ble_eq_true rfl, Nat.le_of_ble_eq_true rfl⟩ (Nat.le_of_ble_eq_true rfl) ⟨Nat.le_of_ble_eq_true rfl, Nat.le_of_ble_eq_true rfl⟩ dX3_isKind_17) hS (fun r_6 L1 M1 H locs hp_5 hw hS => ?_)
      obtain ⟨rfl, e1, e2⟩ := hp_5
      rw [e1, e2] at hw; clear e1 e2
      refine lv_if_ne (tgt := 30) hx hb dX3_isKind_20 (by decide) (fun c_7 => ?_) (fun c_7 => ?_)
      · skip
        have c_7 := bI_t c_7
        refine lv_iconst (v := 1) hx hb dX3_isKind_30 (by decide) ?_
        refine lv_goto (tgt := 35) hx hb dX3_isKind_31 (by decide) ?_
        exact m_zret (b := k_kind a) X hr hlk hw hS (Nat.zero_le _) (Nat.zero_le _) (by clear hb hx hl hS hw hnm hlk hr X; first | rfl | (simp_all [bI, k_kind]; done) | (simp_all [bI, k_kind]; rfl)) (⟨rfl, rfl, rfl⟩) dX3_isKind_35
      · skip
        have c_7 := bI_f c_7
        refine lv_iload_n hx hb dX3_isKind_23 rfl (lv_at hl 0 rfl) ?_
        refine m_calli (m_runS (As := [.int a]) (rest := []) X (k_X3_isUnmade Γ l L (M) a ) s_X3_isUnmade ml_X3_22 hw hS rfl hl.1 ⟨Nat.le_of_ble_eq_true rfl, Nat.le_of_ble_eq_true rfl⟩ (Nat.le_of_ble_eq_true rfl) ⟨Nat.le_of_ble_eq_true rfl, Nat.le_of_ble_eq_true rfl⟩ dX3_isKind_24) hS (fun r_9 L1 M1 H locs hp_8 hw hS => ?_)
        obtain ⟨rfl, e1, e2⟩ := hp_8
        rw [e1, e2] at hw; clear e1 e2
        refine lv_if_eq (tgt := 34) hx hb dX3_isKind_27 (by decide) (fun c_10 => ?_) (fun c_10 => ?_)
        · skip
          have c_10 := bI_f c_10
          refine lv_iconst (v := 0) hx hb dX3_isKind_34 (by decide) ?_
          exact m_zret (b := k_kind a) X hr hlk hw hS (Nat.zero_le _) (Nat.zero_le _) (by clear hb hx hl hS hw hnm hlk hr X; first | rfl | (simp_all [bI, k_kind]; done) | (simp_all [bI, k_kind]; rfl)) (⟨rfl, rfl, rfl⟩) dX3_isKind_35
        · skip
          have c_10 := bI_t c_10
          refine lv_iconst (v := 1) hx hb dX3_isKind_30 (by decide) ?_
          refine lv_goto (tgt := 35) hx hb dX3_isKind_31 (by decide) ?_
          exact m_zret (b := k_kind a) X hr hlk hw hS (Nat.zero_le _) (Nat.zero_le _) (by clear hb hx hl hS hw hnm hlk hr X; first | rfl | (simp_all [bI, k_kind]; done) | (simp_all [bI, k_kind]; rfl)) (⟨rfl, rfl, rfl⟩) dX3_isKind_35
  · skip
    refine lv_iload_n hx hb dX3_isKind_4 rfl (lv_at hl 0 rfl) ?_
    refine lv_iconst (v := 5) hx hb dX3_isKind_5 (by decide) ?_
    refine lv_icmp_le (tgt := 30) hx hb dX3_isKind_6 (by decide) (fun c_11 => ?_) (fun c_11 => ?_)
    · skip
      refine lv_iconst (v := 1) hx hb dX3_isKind_30 (by decide) ?_
      refine lv_goto (tgt := 35) hx hb dX3_isKind_31 (by decide) ?_
      exact m_zret (b := k_kind a) X hr hlk hw hS (Nat.zero_le _) (Nat.zero_le _) (by clear hb hx hl hS hw hnm hlk hr X; first | rfl | (simp_all [bI, k_kind]; done) | (simp_all [bI, k_kind]; rfl)) (⟨rfl, rfl, rfl⟩) dX3_isKind_35
    · skip
      refine lv_iload_n hx hb dX3_isKind_9 rfl (lv_at hl 0 rfl) ?_
      refine m_calli (m_runS (As := [.int a]) (rest := []) X (k_X3_isObject Γ l L (M) a ) s_X3_isObject ml_X3_15 hw hS rfl hl.1 ⟨Nat.le_of_ble_eq_true rfl, Nat.le_of_ble_eq_true rfl⟩ (Nat.le_of_ble_eq_true rfl) ⟨Nat.le_of_ble_eq_true rfl, Nat.le_of_ble_eq_true rfl⟩ dX3_isKind_10) hS (fun r_13 L1 M1 H locs hp_12 hw hS => ?_)
      obtain ⟨rfl, e1, e2⟩ := hp_12
      rw [e1, e2] at hw; clear e1 e2
      refine lv_if_ne (tgt := 30) hx hb dX3_isKind_13 (by decide) (fun c_14 => ?_) (fun c_14 => ?_)
      · skip
        have c_14 := bI_t c_14
        refine lv_iconst (v := 1) hx hb dX3_isKind_30 (by decide) ?_
        refine lv_goto (tgt := 35) hx hb dX3_isKind_31 (by decide) ?_
        exact m_zret (b := k_kind a) X hr hlk hw hS (Nat.zero_le _) (Nat.zero_le _) (by clear hb hx hl hS hw hnm hlk hr X; first | rfl | (simp_all [bI, k_kind]; done) | (simp_all [bI, k_kind]; rfl)) (⟨rfl, rfl, rfl⟩) dX3_isKind_35
      · skip
        have c_14 := bI_f c_14
        refine lv_iload_n hx hb dX3_isKind_16 rfl (lv_at hl 0 rfl) ?_
        refine m_calli (m_runS (As := [.int a]) (rest := []) X (k_X3_isRow Γ l L (M) a ) s_X3_isRow ml_X3_19 hw hS rfl hl.1 ⟨Nat.le_of_ble_eq_true rfl, Nat.le_of_ble_eq_true rfl⟩ (Nat.le_of_ble_eq_true rfl) ⟨Nat.le_of_ble_eq_true rfl, Nat.le_of_ble_eq_true rfl⟩ dX3_isKind_17) hS (fun r_16 L1 M1 H locs hp_15 hw hS => ?_)
        obtain ⟨rfl, e1, e2⟩ := hp_15
        rw [e1, e2] at hw; clear e1 e2
        refine lv_if_ne (tgt := 30) hx hb dX3_isKind_20 (by decide) (fun c_17 => ?_) (fun c_17 => ?_)
        · skip
          have c_17 := bI_t c_17
          refine lv_iconst (v := 1) hx hb dX3_isKind_30 (by decide) ?_
          refine lv_goto (tgt := 35) hx hb dX3_isKind_31 (by decide) ?_
          exact m_zret (b := k_kind a) X hr hlk hw hS (Nat.zero_le _) (Nat.zero_le _) (by clear hb hx hl hS hw hnm hlk hr X; first | rfl | (simp_all [bI, k_kind]; done) | (simp_all [bI, k_kind]; rfl)) (⟨rfl, rfl, rfl⟩) dX3_isKind_35
        · skip
          have c_17 := bI_f c_17
          refine lv_iload_n hx hb dX3_isKind_23 rfl (lv_at hl 0 rfl) ?_
          refine m_calli (m_runS (As := [.int a]) (rest := []) X (k_X3_isUnmade Γ l L (M) a ) s_X3_isUnmade ml_X3_22 hw hS rfl hl.1 ⟨Nat.le_of_ble_eq_true rfl, Nat.le_of_ble_eq_true rfl⟩ (Nat.le_of_ble_eq_true rfl) ⟨Nat.le_of_ble_eq_true rfl, Nat.le_of_ble_eq_true rfl⟩ dX3_isKind_24) hS (fun r_19 L1 M1 H locs hp_18 hw hS => ?_)
          obtain ⟨rfl, e1, e2⟩ := hp_18
          rw [e1, e2] at hw; clear e1 e2
          refine lv_if_eq (tgt := 34) hx hb dX3_isKind_27 (by decide) (fun c_20 => ?_) (fun c_20 => ?_)
          · skip
            have c_20 := bI_f c_20
            refine lv_iconst (v := 0) hx hb dX3_isKind_34 (by decide) ?_
            exact m_zret (b := k_kind a) X hr hlk hw hS (Nat.zero_le _) (Nat.zero_le _) (by clear hb hx hl hS hw hnm hlk hr X; first | rfl | (simp_all [bI, k_kind]; done) | (simp_all [bI, k_kind]; rfl)) (⟨rfl, rfl, rfl⟩) dX3_isKind_35
          · skip
            have c_20 := bI_t c_20
            refine lv_iconst (v := 1) hx hb dX3_isKind_30 (by decide) ?_
            refine lv_goto (tgt := 35) hx hb dX3_isKind_31 (by decide) ?_
            exact m_zret (b := k_kind a) X hr hlk hw hS (Nat.zero_le _) (Nat.zero_le _) (by clear hb hx hl hS hw hnm hlk hr X; first | rfl | (simp_all [bI, k_kind]; done) | (simp_all [bI, k_kind]; rfl)) (⟨rfl, rfl, rfl⟩) dX3_isKind_35
theorem s_X3_isReference : mSm yX3_isReference cX3_isReference 1 (some .boolean) 1 := ⟨cd_X3_isReference, st_X3_isReference, ini_X3, by decide, by decide, by decide +kernel⟩
set_option maxHeartbeats 4000000 in
set_option maxRecDepth 100000 in
theorem k_X3_isReference (Γ : mG) (l : Launch) (L : mI → Nat) (M : mM) (a : Int32)  : mMet Γ l yX3_isReference cX3_isReference 1 (some .boolean) { frames := 0, cells := 0, slots := 0, locals := 0 } [.int a] L M (mQi Γ (fun r L1 M1 => r = bI (k_ref a) ∧ L1 = L ∧ M1 = M)) := by
  refine m_start (by decide) (Nat.le_of_ble_eq_true rfl) ?_
  intro p e s m args below meth c A ls X hr hlk hnm hw hS hl
  have hx := X.1.1
  have hb := X.1.2.1
  have hl : lv_has ls 1 [(0, .int a)] := hl
  refine lv_iload_n hx hb dX3_isReference_0 rfl (lv_at hl 0 rfl) ?_
  refine lv_iconst (v := 5) hx hb dX3_isReference_1 (by decide) ?_
  refine lv_icmp_lt (tgt := 15) hx hb dX3_isReference_2 (by decide) (fun c_1 => ?_) (fun c_1 => ?_)
  · skip
    refine lv_iconst (v := 0) hx hb dX3_isReference_15 (by decide) ?_
    exact m_zret (b := k_ref a) X hr hlk hw hS (Nat.zero_le _) (Nat.zero_le _) (by clear hb hx hl hS hw hnm hlk hr X; first | rfl | (simp_all [bI, k_ref]; done) | (simp_all [bI, k_ref]; rfl)) (⟨rfl, rfl, rfl⟩) dX3_isReference_16
  · skip
    refine lv_iload_n hx hb dX3_isReference_5 rfl (lv_at hl 0 rfl) ?_
    refine lv_bipush (v := 100) hx hb dX3_isReference_6 (by decide) ?_
    refine lv_icmp_ge (tgt := 15) hx hb dX3_isReference_8 (by decide) (fun c_2 => ?_) (fun c_2 => ?_)
    · skip
      refine lv_iconst (v := 0) hx hb dX3_isReference_15 (by decide) ?_
      exact m_zret (b := k_ref a) X hr hlk hw hS (Nat.zero_le _) (Nat.zero_le _) (by clear hb hx hl hS hw hnm hlk hr X; first | rfl | (simp_all [bI, k_ref]; done) | (simp_all [bI, k_ref]; rfl)) (⟨rfl, rfl, rfl⟩) dX3_isReference_16
    · skip
      refine lv_iconst (v := 1) hx hb dX3_isReference_11 (by decide) ?_
      refine lv_goto (tgt := 16) hx hb dX3_isReference_12 (by decide) ?_
      exact m_zret (b := k_ref a) X hr hlk hw hS (Nat.zero_le _) (Nat.zero_le _) (by clear hb hx hl hS hw hnm hlk hr X; first | rfl | (simp_all [bI, k_ref]; done) | (simp_all [bI, k_ref]; rfl)) (⟨rfl, rfl, rfl⟩) dX3_isReference_16
theorem s_X3_isUnder : mSm yX3_isUnder cX3_isUnder 2 (some .boolean) 2 := ⟨cd_X3_isUnder, st_X3_isUnder, ini_X3, by decide, by decide, by decide +kernel⟩
set_option maxHeartbeats 4000000 in
set_option maxRecDepth 100000 in
theorem k_X3_isUnder (Γ : mG) (l : Launch) (L : mI → Nat) (M : mM) (a : Int32) (b : Int32)  : mMet Γ l yX3_isUnder cX3_isUnder 2 (some .boolean) { frames := 0, cells := 0, slots := 0, locals := 0 } [.int a, .int b] L M (mQi Γ (fun r L1 M1 => r = bI (k_und a b) ∧ L1 = L ∧ M1 = M)) := by
  refine m_start (by decide) (Nat.le_of_ble_eq_true rfl) ?_
  intro p e s m args below meth c A ls X hr hlk hnm hw hS hl
  have hx := X.1.1
  have hb := X.1.2.1
  have hl : lv_has ls 2 [(0, .int a), (1, .int b)] := hl
  refine lv_iload_n hx hb dX3_isUnder_0 rfl (lv_at hl 0 rfl) ?_
  refine lv_if_lt (tgt := 20) hx hb dX3_isUnder_1 (by decide) (fun c_1 => ?_) (fun c_1 => ?_)
  · skip
    refine lv_iconst (v := 0) hx hb dX3_isUnder_20 (by decide) ?_
    exact m_zret (b := k_und a b) X hr hlk hw hS (Nat.zero_le _) (Nat.zero_le _) (by clear hb hx hl hS hw hnm hlk hr X; first | rfl | (simp_all [bI, k_und]; done) | (simp_all [bI, k_und]; rfl)) (⟨rfl, rfl, rfl⟩) dX3_isUnder_21
  · skip
    refine lv_iload_n hx hb dX3_isUnder_4 rfl (lv_at hl 0 rfl) ?_
    refine lv_bipush (v := 7) hx hb dX3_isUnder_5 (by decide) ?_
    refine lv_icmp_gt (tgt := 20) hx hb dX3_isUnder_7 (by decide) (fun c_2 => ?_) (fun c_2 => ?_)
    · skip
      refine lv_iconst (v := 0) hx hb dX3_isUnder_20 (by decide) ?_
      exact m_zret (b := k_und a b) X hr hlk hw hS (Nat.zero_le _) (Nat.zero_le _) (by clear hb hx hl hS hw hnm hlk hr X; first | rfl | (simp_all [bI, k_und]; done) | (simp_all [bI, k_und]; rfl)) (⟨rfl, rfl, rfl⟩) dX3_isUnder_21
    · skip
      refine lv_iload_n hx hb dX3_isUnder_10 rfl (lv_at hl 1 rfl) ?_
      refine lv_if_lt (tgt := 20) hx hb dX3_isUnder_11 (by decide) (fun c_3 => ?_) (fun c_3 => ?_)
      · skip
        refine lv_iconst (v := 0) hx hb dX3_isUnder_20 (by decide) ?_
        exact m_zret (b := k_und a b) X hr hlk hw hS (Nat.zero_le _) (Nat.zero_le _) (by clear hb hx hl hS hw hnm hlk hr X; first | rfl | (simp_all [bI, k_und]; done) | (simp_all [bI, k_und]; rfl)) (⟨rfl, rfl, rfl⟩) dX3_isUnder_21
      · skip
        refine lv_iload_n hx hb dX3_isUnder_14 rfl (lv_at hl 1 rfl) ?_
        refine lv_bipush (v := 7) hx hb dX3_isUnder_15 (by decide) ?_
        refine lv_icmp_le (tgt := 22) hx hb dX3_isUnder_17 (by decide) (fun c_4 => ?_) (fun c_4 => ?_)
        · skip
          refine m_getUN X hS fl_X3_25 rfl dX3_isUnder_22 ?_
          refine lv_iload_n hx hb dX3_isUnder_25 rfl (lv_at hl 0 rfl) ?_
          refine m_ldUN X hS (vp_in8 (by first | assumption | exact vp_nl (by assumption)) (by assumption)) dX3_isUnder_26 ?_
          refine lv_iload_n hx hb dX3_isUnder_27 rfl (lv_at hl 1 rfl) ?_
          refine lv_ishr hx hb dX3_isUnder_28 ?_
          refine lv_iconst (v := 1) hx hb dX3_isUnder_29 (by decide) ?_
          refine lv_iand hx hb dX3_isUnder_30 ?_
          refine lv_iconst (v := 1) hx hb dX3_isUnder_31 (by decide) ?_
          refine lv_icmp_ne (tgt := 39) hx hb dX3_isUnder_32 (by decide) (fun c_5 => ?_) (fun c_5 => ?_)
          · skip
            refine lv_iconst (v := 0) hx hb dX3_isUnder_39 (by decide) ?_
            exact m_zret (b := k_und a b) X hr hlk hw hS (Nat.zero_le _) (Nat.zero_le _) (by clear hb hx hl hS hw hnm hlk hr X; first | rfl | (simp_all [bI, k_und]; done) | (simp_all [bI, k_und]; rfl)) (⟨rfl, rfl, rfl⟩) dX3_isUnder_40
          · skip
            refine lv_iconst (v := 1) hx hb dX3_isUnder_35 (by decide) ?_
            refine lv_goto (tgt := 40) hx hb dX3_isUnder_36 (by decide) ?_
            exact m_zret (b := k_und a b) X hr hlk hw hS (Nat.zero_le _) (Nat.zero_le _) (by clear hb hx hl hS hw hnm hlk hr X; first | rfl | (simp_all [bI, k_und]; done) | (simp_all [bI, k_und]; rfl)) (⟨rfl, rfl, rfl⟩) dX3_isUnder_40
        · skip
          refine lv_iconst (v := 0) hx hb dX3_isUnder_20 (by decide) ?_
          exact m_zret (b := k_und a b) X hr hlk hw hS (Nat.zero_le _) (Nat.zero_le _) (by clear hb hx hl hS hw hnm hlk hr X; first | rfl | (simp_all [bI, k_und]; done) | (simp_all [bI, k_und]; rfl)) (⟨rfl, rfl, rfl⟩) dX3_isUnder_21
theorem s_X3_goesTo : mSm yX3_goesTo cX3_goesTo 2 (some .boolean) 2 := ⟨cd_X3_goesTo, st_X3_goesTo, ini_X3, by decide, by decide, by decide +kernel⟩
set_option maxHeartbeats 4000000 in
set_option maxRecDepth 100000 in
theorem k_X3_goesTo (Γ : mG) (l : Launch) (L : mI → Nat) (M : mM) (a : Int32) (b : Int32)  : mMet Γ l yX3_goesTo cX3_goesTo 2 (some .boolean) { frames := 1, cells := 0, slots := 0, locals := 21 } [.int a, .int b] L M (mQi Γ (fun r L1 M1 => r = bI (k_goes a b) ∧ L1 = L ∧ M1 = M)) := by
  refine m_start (by decide) (Nat.le_of_ble_eq_true rfl) ?_
  intro p e s m args below meth c A ls X hr hlk hnm hw hS hl
  have hx := X.1.1
  have hb := X.1.2.1
  have hl : lv_has ls 2 [(0, .int a), (1, .int b)] := hl
  refine lv_iload_n hx hb dX3_goesTo_0 rfl (lv_at hl 0 rfl) ?_
  refine lv_iload_n hx hb dX3_goesTo_1 rfl (lv_at hl 1 rfl) ?_
  refine lv_icmp_eq (tgt := 9) hx hb dX3_goesTo_2 (by decide) (fun c_1 => ?_) (fun c_1 => ?_)
  · skip
    refine lv_iconst (v := 1) hx hb dX3_goesTo_9 (by decide) ?_
    exact m_zret (b := k_goes a b) X hr hlk hw hS (Nat.zero_le _) (Nat.zero_le _) (by clear hb hx hl hS hw hnm hlk hr X; first | rfl | (simp_all [bI, k_goes]; done) | (simp_all [bI, k_goes]; rfl)) (⟨rfl, rfl, rfl⟩) dX3_goesTo_10
  · skip
    refine lv_iload_n hx hb dX3_goesTo_5 rfl (lv_at hl 1 rfl) ?_
    refine lv_if_ne (tgt := 11) hx hb dX3_goesTo_6 (by decide) (fun c_2 => ?_) (fun c_2 => ?_)
    · skip
      refine lv_iload_n hx hb dX3_goesTo_11 rfl (lv_at hl 0 rfl) ?_
      refine lv_iconst (v := 4) hx hb dX3_goesTo_12 (by decide) ?_
      refine lv_icmp_ne (tgt := 21) hx hb dX3_goesTo_13 (by decide) (fun c_3 => ?_) (fun c_3 => ?_)
      · skip
        refine lv_iload_n hx hb dX3_goesTo_21 rfl (lv_at hl 1 rfl) ?_
        refine m_calli (m_runS (As := [.int b]) (rest := []) X (k_X3_isObject Γ l L (M) b ) s_X3_isObject ml_X3_15 hw hS rfl hl.1 ⟨Nat.le_of_ble_eq_true rfl, Nat.le_of_ble_eq_true rfl⟩ (Nat.le_of_ble_eq_true rfl) ⟨Nat.le_of_ble_eq_true rfl, Nat.le_of_ble_eq_true rfl⟩ dX3_goesTo_22) hS (fun r_5 L1 M1 H locs hp_4 hw hS => ?_)
        obtain ⟨rfl, e1, e2⟩ := hp_4
        rw [e1, e2] at hw; clear e1 e2
        refine lv_if_eq (tgt := 72) hx hb dX3_goesTo_25 (by decide) (fun c_6 => ?_) (fun c_6 => ?_)
        · skip
          have c_6 := bI_f c_6
          refine lv_iload_n hx hb dX3_goesTo_72 rfl (lv_at hl 0 rfl) ?_
          refine m_calli (m_runS (As := [.int a]) (rest := []) X (k_X3_isRow Γ l L (M) a ) s_X3_isRow ml_X3_19 hw hS rfl hl.1 ⟨Nat.le_of_ble_eq_true rfl, Nat.le_of_ble_eq_true rfl⟩ (Nat.le_of_ble_eq_true rfl) ⟨Nat.le_of_ble_eq_true rfl, Nat.le_of_ble_eq_true rfl⟩ dX3_goesTo_73) hS (fun r_8 L1 M1 H locs hp_7 hw hS => ?_)
          obtain ⟨rfl, e1, e2⟩ := hp_7
          rw [e1, e2] at hw; clear e1 e2
          refine lv_if_eq (tgt := 104) hx hb dX3_goesTo_76 (by decide) (fun c_9 => ?_) (fun c_9 => ?_)
          · skip
            have c_9 := bI_f c_9
            refine lv_iconst (v := 0) hx hb dX3_goesTo_104 (by decide) ?_
            exact m_zret (b := k_goes a b) X hr hlk hw hS (Nat.zero_le _) (Nat.zero_le _) (by clear hb hx hl hS hw hnm hlk hr X; first | rfl | (simp_all [bI, k_goes]; done) | (simp_all [bI, k_goes]; rfl)) (⟨rfl, rfl, rfl⟩) dX3_goesTo_105
          · skip
            have c_9 := bI_t c_9
            refine lv_iload_n hx hb dX3_goesTo_79 rfl (lv_at hl 1 rfl) ?_
            refine m_calli (m_runS (As := [.int b]) (rest := []) X (k_X3_isRow Γ l L (M) b ) s_X3_isRow ml_X3_19 hw hS rfl hl.1 ⟨Nat.le_of_ble_eq_true rfl, Nat.le_of_ble_eq_true rfl⟩ (Nat.le_of_ble_eq_true rfl) ⟨Nat.le_of_ble_eq_true rfl, Nat.le_of_ble_eq_true rfl⟩ dX3_goesTo_80) hS (fun r_11 L1 M1 H locs hp_10 hw hS => ?_)
            obtain ⟨rfl, e1, e2⟩ := hp_10
            rw [e1, e2] at hw; clear e1 e2
            refine lv_if_eq (tgt := 104) hx hb dX3_goesTo_83 (by decide) (fun c_12 => ?_) (fun c_12 => ?_)
            · skip
              have c_12 := bI_f c_12
              refine lv_iconst (v := 0) hx hb dX3_goesTo_104 (by decide) ?_
              exact m_zret (b := k_goes a b) X hr hlk hw hS (Nat.zero_le _) (Nat.zero_le _) (by clear hb hx hl hS hw hnm hlk hr X; first | rfl | (simp_all [bI, k_goes]; done) | (simp_all [bI, k_goes]; rfl)) (⟨rfl, rfl, rfl⟩) dX3_goesTo_105
            · skip
              have c_12 := bI_t c_12
              refine lv_iload_n hx hb dX3_goesTo_86 rfl (lv_at hl 0 rfl) ?_
              refine lv_bipush (v := 20) hx hb dX3_goesTo_87 (by decide) ?_
              refine lv_isub hx hb dX3_goesTo_89 ?_
              refine lv_iload_n hx hb dX3_goesTo_90 rfl (lv_at hl 1 rfl) ?_
              refine lv_bipush (v := 20) hx hb dX3_goesTo_91 (by decide) ?_
              refine lv_isub hx hb dX3_goesTo_93 ?_
              refine m_calli (m_runS (As := [.int (a - 20), .int (b - 20)]) (rest := []) X (k_X3_isUnder Γ l L (M) (a - 20) (b - 20) ) s_X3_isUnder ml_X3_32 hw hS rfl hl.1 ⟨Nat.le_of_ble_eq_true rfl, Nat.le_of_ble_eq_true rfl⟩ (Nat.le_of_ble_eq_true rfl) ⟨Nat.le_of_ble_eq_true rfl, Nat.le_of_ble_eq_true rfl⟩ dX3_goesTo_94) hS (fun r_14 L1 M1 H locs hp_13 hw hS => ?_)
              obtain ⟨rfl, e1, e2⟩ := hp_13
              rw [e1, e2] at hw; clear e1 e2
              refine lv_if_eq (tgt := 104) hx hb dX3_goesTo_97 (by decide) (fun c_15 => ?_) (fun c_15 => ?_)
              · skip
                have c_15 := bI_f c_15
                refine lv_iconst (v := 0) hx hb dX3_goesTo_104 (by decide) ?_
                exact m_zret (b := k_goes a b) X hr hlk hw hS (Nat.zero_le _) (Nat.zero_le _) (by clear hb hx hl hS hw hnm hlk hr X; first | rfl | (simp_all [bI, k_goes]; done) | (simp_all [bI, k_goes]; rfl)) (⟨rfl, rfl, rfl⟩) dX3_goesTo_105
              · skip
                have c_15 := bI_t c_15
                refine lv_iconst (v := 1) hx hb dX3_goesTo_100 (by decide) ?_
                refine lv_goto (tgt := 105) hx hb dX3_goesTo_101 (by decide) ?_
                exact m_zret (b := k_goes a b) X hr hlk hw hS (Nat.zero_le _) (Nat.zero_le _) (by clear hb hx hl hS hw hnm hlk hr X; first | rfl | (simp_all [bI, k_goes]; done) | (simp_all [bI, k_goes]; rfl)) (⟨rfl, rfl, rfl⟩) dX3_goesTo_105
        · skip
          have c_6 := bI_t c_6
          refine lv_iload_n hx hb dX3_goesTo_28 rfl (lv_at hl 1 rfl) ?_
          refine lv_bipush (v := 10) hx hb dX3_goesTo_29 (by decide) ?_
          refine lv_icmp_eq (tgt := 40) hx hb dX3_goesTo_31 (by decide) (fun c_16 => ?_) (fun c_16 => ?_)
          · skip
            refine lv_iload_n hx hb dX3_goesTo_40 rfl (lv_at hl 0 rfl) ?_
            refine m_calli (m_runS (As := [.int a]) (rest := []) X (k_X3_isReference Γ l L (M) a ) s_X3_isReference ml_X3_29 hw hS rfl hl.1 ⟨Nat.le_of_ble_eq_true rfl, Nat.le_of_ble_eq_true rfl⟩ (Nat.le_of_ble_eq_true rfl) ⟨Nat.le_of_ble_eq_true rfl, Nat.le_of_ble_eq_true rfl⟩ dX3_goesTo_41) hS (fun r_18 L1 M1 H locs hp_17 hw hS => ?_)
            obtain ⟨rfl, e1, e2⟩ := hp_17
            rw [e1, e2] at hw; clear e1 e2
            exact m_zret (b := k_goes a b) X hr hlk hw hS (Nat.zero_le _) (Nat.zero_le _) (by clear hb hx hl hS hw hnm hlk hr X; first | rfl | (simp_all [bI, k_goes]; done) | (simp_all [bI, k_goes]; rfl)) (⟨rfl, rfl, rfl⟩) dX3_goesTo_44
          · skip
            refine lv_iload_n hx hb dX3_goesTo_34 rfl (lv_at hl 1 rfl) ?_
            refine lv_bipush (v := 15) hx hb dX3_goesTo_35 (by decide) ?_
            refine lv_icmp_le (tgt := 45) hx hb dX3_goesTo_37 (by decide) (fun c_19 => ?_) (fun c_19 => ?_)
            · skip
              refine lv_iload_n hx hb dX3_goesTo_45 rfl (lv_at hl 0 rfl) ?_
              refine m_calli (m_runS (As := [.int a]) (rest := []) X (k_X3_isObject Γ l L (M) a ) s_X3_isObject ml_X3_15 hw hS rfl hl.1 ⟨Nat.le_of_ble_eq_true rfl, Nat.le_of_ble_eq_true rfl⟩ (Nat.le_of_ble_eq_true rfl) ⟨Nat.le_of_ble_eq_true rfl, Nat.le_of_ble_eq_true rfl⟩ dX3_goesTo_46) hS (fun r_21 L1 M1 H locs hp_20 hw hS => ?_)
              obtain ⟨rfl, e1, e2⟩ := hp_20
              rw [e1, e2] at hw; clear e1 e2
              refine lv_if_eq (tgt := 70) hx hb dX3_goesTo_49 (by decide) (fun c_22 => ?_) (fun c_22 => ?_)
              · skip
                have c_22 := bI_f c_22
                refine lv_iconst (v := 0) hx hb dX3_goesTo_70 (by decide) ?_
                exact m_zret (b := k_goes a b) X hr hlk hw hS (Nat.zero_le _) (Nat.zero_le _) (by clear hb hx hl hS hw hnm hlk hr X; first | rfl | (simp_all [bI, k_goes]; done) | (simp_all [bI, k_goes]; rfl)) (⟨rfl, rfl, rfl⟩) dX3_goesTo_71
              · skip
                have c_22 := bI_t c_22
                refine lv_iload_n hx hb dX3_goesTo_52 rfl (lv_at hl 0 rfl) ?_
                refine lv_bipush (v := 10) hx hb dX3_goesTo_53 (by decide) ?_
                refine lv_isub hx hb dX3_goesTo_55 ?_
                refine lv_iload_n hx hb dX3_goesTo_56 rfl (lv_at hl 1 rfl) ?_
                refine lv_bipush (v := 10) hx hb dX3_goesTo_57 (by decide) ?_
                refine lv_isub hx hb dX3_goesTo_59 ?_
                refine m_calli (m_runS (As := [.int (a - 10), .int (b - 10)]) (rest := []) X (k_X3_isUnder Γ l L (M) (a - 10) (b - 10) ) s_X3_isUnder ml_X3_32 hw hS rfl hl.1 ⟨Nat.le_of_ble_eq_true rfl, Nat.le_of_ble_eq_true rfl⟩ (Nat.le_of_ble_eq_true rfl) ⟨Nat.le_of_ble_eq_true rfl, Nat.le_of_ble_eq_true rfl⟩ dX3_goesTo_60) hS (fun r_24 L1 M1 H locs hp_23 hw hS => ?_)
                obtain ⟨rfl, e1, e2⟩ := hp_23
                rw [e1, e2] at hw; clear e1 e2
                refine lv_if_eq (tgt := 70) hx hb dX3_goesTo_63 (by decide) (fun c_25 => ?_) (fun c_25 => ?_)
                · skip
                  have c_25 := bI_f c_25
                  refine lv_iconst (v := 0) hx hb dX3_goesTo_70 (by decide) ?_
                  exact m_zret (b := k_goes a b) X hr hlk hw hS (Nat.zero_le _) (Nat.zero_le _) (by clear hb hx hl hS hw hnm hlk hr X; first | rfl | (simp_all [bI, k_goes]; done) | (simp_all [bI, k_goes]; rfl)) (⟨rfl, rfl, rfl⟩) dX3_goesTo_71
                · skip
                  have c_25 := bI_t c_25
                  refine lv_iconst (v := 1) hx hb dX3_goesTo_66 (by decide) ?_
                  refine lv_goto (tgt := 71) hx hb dX3_goesTo_67 (by decide) ?_
                  exact m_zret (b := k_goes a b) X hr hlk hw hS (Nat.zero_le _) (Nat.zero_le _) (by clear hb hx hl hS hw hnm hlk hr X; first | rfl | (simp_all [bI, k_goes]; done) | (simp_all [bI, k_goes]; rfl)) (⟨rfl, rfl, rfl⟩) dX3_goesTo_71
            · skip
              refine lv_iload_n hx hb dX3_goesTo_40 rfl (lv_at hl 0 rfl) ?_
              refine m_calli (m_runS (As := [.int a]) (rest := []) X (k_X3_isReference Γ l L (M) a ) s_X3_isReference ml_X3_29 hw hS rfl hl.1 ⟨Nat.le_of_ble_eq_true rfl, Nat.le_of_ble_eq_true rfl⟩ (Nat.le_of_ble_eq_true rfl) ⟨Nat.le_of_ble_eq_true rfl, Nat.le_of_ble_eq_true rfl⟩ dX3_goesTo_41) hS (fun r_27 L1 M1 H locs hp_26 hw hS => ?_)
              obtain ⟨rfl, e1, e2⟩ := hp_26
              rw [e1, e2] at hw; clear e1 e2
              exact m_zret (b := k_goes a b) X hr hlk hw hS (Nat.zero_le _) (Nat.zero_le _) (by clear hb hx hl hS hw hnm hlk hr X; first | rfl | (simp_all [bI, k_goes]; done) | (simp_all [bI, k_goes]; rfl)) (⟨rfl, rfl, rfl⟩) dX3_goesTo_44
      · skip
        refine lv_iload_n hx hb dX3_goesTo_16 rfl (lv_at hl 1 rfl) ?_
        refine m_calli (m_runS (As := [.int b]) (rest := []) X (k_X3_isReference Γ l L (M) b ) s_X3_isReference ml_X3_29 hw hS rfl hl.1 ⟨Nat.le_of_ble_eq_true rfl, Nat.le_of_ble_eq_true rfl⟩ (Nat.le_of_ble_eq_true rfl) ⟨Nat.le_of_ble_eq_true rfl, Nat.le_of_ble_eq_true rfl⟩ dX3_goesTo_17) hS (fun r_29 L1 M1 H locs hp_28 hw hS => ?_)
        obtain ⟨rfl, e1, e2⟩ := hp_28
        rw [e1, e2] at hw; clear e1 e2
        exact m_zret (b := k_goes a b) X hr hlk hw hS (Nat.zero_le _) (Nat.zero_le _) (by clear hb hx hl hS hw hnm hlk hr X; first | rfl | (simp_all [bI, k_goes]; done) | (simp_all [bI, k_goes]; rfl)) (⟨rfl, rfl, rfl⟩) dX3_goesTo_20
    · skip
      refine lv_iconst (v := 1) hx hb dX3_goesTo_9 (by decide) ?_
      exact m_zret (b := k_goes a b) X hr hlk hw hS (Nat.zero_le _) (Nat.zero_le _) (by clear hb hx hl hS hw hnm hlk hr X; first | rfl | (simp_all [bI, k_goes]; done) | (simp_all [bI, k_goes]; rfl)) (⟨rfl, rfl, rfl⟩) dX3_goesTo_10
theorem s_X3_sharedClass : mSm yX3_sharedClass cX3_sharedClass 4 (some .int) 2 := ⟨cd_X3_sharedClass, st_X3_sharedClass, ini_X3, by decide, by decide, by decide +kernel⟩
set_option maxHeartbeats 4000000 in
set_option maxRecDepth 100000 in
theorem k_X3_sharedClass (Γ : mG) (l : Launch) (L : mI → Nat) (M : mM) (a : Int32) (b : Int32)  : mMet Γ l yX3_sharedClass cX3_sharedClass 4 (some .int) { frames := 1, cells := 0, slots := 0, locals := 21 } [.int a, .int b] L M (mQi Γ (fun r L1 M1 => r = k_shared a b ∧ L1 = L ∧ M1 = M)) := by
  refine m_start (by decide) (Nat.le_of_ble_eq_true rfl) ?_
  intro p e s m args below meth c A ls X hr hlk hnm hw hS hl
  have hx := X.1.1
  have hb := X.1.2.1
  have hl : lv_has ls 4 [(0, .int a), (1, .int b)] := hl
  have KL : ∀ (n t : Nat) (j z : Int32) (H : Heap) (locs : List Loc) (ls : Array Slot), t + n = 5 → j = nI t → k_shared a b = k_sh n z b → mW Γ.1 vwCl A L M H → va_S A s.heap H locs → lv_has ls 4 [(3, .int j), (2, .int z), (0, .int a), (1, .int b)] → W p l e { frames := 1, cells := 0, slots := 0, locals := 21 } s m args below meth c H locs 0 0 (MQ below (mQi Γ (fun r L1 M1 => r = k_shared a b ∧ L1 = L ∧ M1 = M) A) args s 0 0 A) (F0 m 4 ls []) := by
    intro n
    induction n with
    | zero =>
      intro t j z H locs ls ht hj he hw hS hl
      refine lv_iload_n hx hb dX3_sharedClass_4 rfl (lv_at hl 0 rfl) ?_
      refine lv_iconst (v := 5) hx hb dX3_sharedClass_5 (by decide) ?_
      refine lv_icmp_ge (tgt := 46) hx hb dX3_sharedClass_6 (by decide) (fun c_1 => ?_) (fun c_1 => ?_)
      · skip
        have c_1n : t ≥ 5 := ngeT (a := t) (b := 5) hj rfl (by omega) (by omega) c_1
        have c_1m : ¬ t < 5 := by omega
        refine lv_iconst (v := 0) hx hb dX3_sharedClass_46 (by decide) ?_
        exact m_iret X hr hlk hw hS (Nat.zero_le _) (Nat.zero_le _) (⟨by rw [he]; clear he hb hx hl hS hw hnm hlk hr X; first | rfl | (simp_all [bI, k_sh]; done) | (simp_all [bI, k_sh]; rfl), rfl, rfl⟩) dX3_sharedClass_47
      · skip
        have c_1n : ¬ t ≥ 5 := ngeF (a := t) (b := 5) hj rfl (by omega) (by omega) c_1
        have c_1m : t < 5 := by omega
        refine lv_iload_n hx hb dX3_sharedClass_9 rfl (lv_at hl 1 rfl) ?_
        refine lv_if_le (tgt := 46) hx hb dX3_sharedClass_10 (by decide) (fun c_2 => ?_) (fun c_2 => ?_)
        · skip
          refine lv_iconst (v := 0) hx hb dX3_sharedClass_46 (by decide) ?_
          exact m_iret X hr hlk hw hS (Nat.zero_le _) (Nat.zero_le _) (⟨by rw [he]; clear he hb hx hl hS hw hnm hlk hr X; first | rfl | (simp_all [bI, k_sh]; done) | (simp_all [bI, k_sh]; rfl), rfl, rfl⟩) dX3_sharedClass_47
        · skip
          refine lv_iload_n hx hb dX3_sharedClass_13 rfl (lv_at hl 1 rfl) ?_
          refine lv_bipush (v := 7) hx hb dX3_sharedClass_14 (by decide) ?_
          refine lv_icmp_gt (tgt := 46) hx hb dX3_sharedClass_16 (by decide) (fun c_3 => ?_) (fun c_3 => ?_)
          · skip
            refine lv_iconst (v := 0) hx hb dX3_sharedClass_46 (by decide) ?_
            exact m_iret X hr hlk hw hS (Nat.zero_le _) (Nat.zero_le _) (⟨by rw [he]; clear he hb hx hl hS hw hnm hlk hr X; first | rfl | (simp_all [bI, k_sh]; done) | (simp_all [bI, k_sh]; rfl), rfl, rfl⟩) dX3_sharedClass_47
          · skip
            refine lv_iload_n hx hb dX3_sharedClass_19 rfl (lv_at hl 1 rfl) ?_
            refine lv_iconst (v := 5) hx hb dX3_sharedClass_20 (by decide) ?_
            refine lv_icmp_gt (tgt := 34) hx hb dX3_sharedClass_21 (by decide) (fun c_4 => ?_) (fun c_4 => ?_)
            · skip
              refine m_getAB X hS fl_X3_40 rfl dX3_sharedClass_34 ?_
              refine lv_iload_n hx hb dX3_sharedClass_37 rfl (lv_at hl 1 rfl) ?_
              refine m_ldAB X hS (vp_in8 (by first | assumption | exact vp_nl (by assumption)) (by assumption)) dX3_sharedClass_38 ?_
              refine lv_istore_n (lv' := [(2, .int (mAB z.toNatClampNeg)), (3, .int j), (0, .int a), (1, .int b)]) hx hb dX3_sharedClass_39 rfl hl (by decide) rfl (fun ls hl => ?_)
              refine lv_iinc (v := j + 1) (lv' := [(3, .int (j + 1)), (2, .int (mAB z.toNatClampNeg)), (0, .int a), (1, .int b)]) hx hb dX3_sharedClass_40 hl (k := 1) rfl rfl (by decide) rfl (fun ls hl => ?_)
              refine lv_goto (tgt := 4) hx hb dX3_sharedClass_43 (by decide) ?_
              exact absurd ht (by omega)
            · skip
              refine lv_iload_n hx hb dX3_sharedClass_24 rfl (lv_at hl 3 rfl) ?_
              refine lv_iload_n hx hb dX3_sharedClass_25 rfl (lv_at hl 1 rfl) ?_
              refine m_calli (m_runS (As := [.int b, .int z]) (rest := []) X (k_X3_isUnder Γ l L (M) b z ) s_X3_isUnder ml_X3_32 hw hS rfl hl.1 ⟨Nat.le_of_ble_eq_true rfl, Nat.le_of_ble_eq_true rfl⟩ (Nat.le_of_ble_eq_true rfl) ⟨Nat.le_of_ble_eq_true rfl, Nat.le_of_ble_eq_true rfl⟩ dX3_sharedClass_26) hS (fun r_6 L1 M1 H locs hp_5 hw hS => ?_)
              obtain ⟨rfl, e1, e2⟩ := hp_5
              rw [e1, e2] at hw; clear e1 e2
              refine lv_if_eq (tgt := 34) hx hb dX3_sharedClass_29 (by decide) (fun c_7 => ?_) (fun c_7 => ?_)
              · skip
                have c_7 := bI_f c_7
                refine m_getAB X hS fl_X3_40 rfl dX3_sharedClass_34 ?_
                refine lv_iload_n hx hb dX3_sharedClass_37 rfl (lv_at hl 1 rfl) ?_
                refine m_ldAB X hS (vp_in8 (by first | assumption | exact vp_nl (by assumption)) (by assumption)) dX3_sharedClass_38 ?_
                refine lv_istore_n (lv' := [(2, .int (mAB z.toNatClampNeg)), (3, .int j), (0, .int a), (1, .int b)]) hx hb dX3_sharedClass_39 rfl hl (by decide) rfl (fun ls hl => ?_)
                refine lv_iinc (v := j + 1) (lv' := [(3, .int (j + 1)), (2, .int (mAB z.toNatClampNeg)), (0, .int a), (1, .int b)]) hx hb dX3_sharedClass_40 hl (k := 1) rfl rfl (by decide) rfl (fun ls hl => ?_)
                refine lv_goto (tgt := 4) hx hb dX3_sharedClass_43 (by decide) ?_
                exact absurd ht (by omega)
              · skip
                have c_7 := bI_t c_7
                refine lv_iload_n hx hb dX3_sharedClass_32 rfl (lv_at hl 1 rfl) ?_
                exact m_iret X hr hlk hw hS (Nat.zero_le _) (Nat.zero_le _) (⟨by rw [he]; clear he hb hx hl hS hw hnm hlk hr X; first | rfl | (simp_all [bI, k_sh]; done) | (simp_all [bI, k_sh]; rfl), rfl, rfl⟩) dX3_sharedClass_33
    | succ n ih =>
      intro t j z H locs ls ht hj he hw hS hl
      refine lv_iload_n hx hb dX3_sharedClass_4 rfl (lv_at hl 0 rfl) ?_
      refine lv_iconst (v := 5) hx hb dX3_sharedClass_5 (by decide) ?_
      refine lv_icmp_ge (tgt := 46) hx hb dX3_sharedClass_6 (by decide) (fun c_8 => ?_) (fun c_8 => ?_)
      · skip
        have c_8n : t ≥ 5 := ngeT (a := t) (b := 5) hj rfl (by omega) (by omega) c_8
        have c_8m : ¬ t < 5 := by omega
        refine lv_iconst (v := 0) hx hb dX3_sharedClass_46 (by decide) ?_
        exact m_iret X hr hlk hw hS (Nat.zero_le _) (Nat.zero_le _) (⟨by first | (exfalso; omega) | skip; rw [he]; first | (clear he ih hb hx hl hS hw hnm hlk hr X; simp_all only [k_sh, if_true, if_false, ite_true, ite_false, false_or, or_false, true_or, or_true, and_true, true_and, and_false, false_and, not_true_eq_false, not_false_eq_true, if_pos, if_neg, reduceIte, bI, Bool.false_eq_true]; done) | skip; clear he ih hb hx hl hS hw hnm hlk hr X; first | rfl | (simp_all [bI, k_sh]; done) | (simp_all [bI, k_sh]; rfl), rfl, rfl⟩) dX3_sharedClass_47
      · skip
        have c_8n : ¬ t ≥ 5 := ngeF (a := t) (b := 5) hj rfl (by omega) (by omega) c_8
        have c_8m : t < 5 := by omega
        refine lv_iload_n hx hb dX3_sharedClass_9 rfl (lv_at hl 1 rfl) ?_
        refine lv_if_le (tgt := 46) hx hb dX3_sharedClass_10 (by decide) (fun c_9 => ?_) (fun c_9 => ?_)
        · skip
          refine lv_iconst (v := 0) hx hb dX3_sharedClass_46 (by decide) ?_
          exact m_iret X hr hlk hw hS (Nat.zero_le _) (Nat.zero_le _) (⟨by first | (exfalso; omega) | skip; rw [he]; first | (clear he ih hb hx hl hS hw hnm hlk hr X; simp_all only [k_sh, if_true, if_false, ite_true, ite_false, false_or, or_false, true_or, or_true, and_true, true_and, and_false, false_and, not_true_eq_false, not_false_eq_true, if_pos, if_neg, reduceIte, bI, Bool.false_eq_true]; done) | skip; clear he ih hb hx hl hS hw hnm hlk hr X; first | rfl | (simp_all [bI, k_sh]; done) | (simp_all [bI, k_sh]; rfl), rfl, rfl⟩) dX3_sharedClass_47
        · skip
          refine lv_iload_n hx hb dX3_sharedClass_13 rfl (lv_at hl 1 rfl) ?_
          refine lv_bipush (v := 7) hx hb dX3_sharedClass_14 (by decide) ?_
          refine lv_icmp_gt (tgt := 46) hx hb dX3_sharedClass_16 (by decide) (fun c_10 => ?_) (fun c_10 => ?_)
          · skip
            refine lv_iconst (v := 0) hx hb dX3_sharedClass_46 (by decide) ?_
            exact m_iret X hr hlk hw hS (Nat.zero_le _) (Nat.zero_le _) (⟨by first | (exfalso; omega) | skip; rw [he]; first | (clear he ih hb hx hl hS hw hnm hlk hr X; simp_all only [k_sh, if_true, if_false, ite_true, ite_false, false_or, or_false, true_or, or_true, and_true, true_and, and_false, false_and, not_true_eq_false, not_false_eq_true, if_pos, if_neg, reduceIte, bI, Bool.false_eq_true]; done) | skip; clear he ih hb hx hl hS hw hnm hlk hr X; first | rfl | (simp_all [bI, k_sh]; done) | (simp_all [bI, k_sh]; rfl), rfl, rfl⟩) dX3_sharedClass_47
          · skip
            refine lv_iload_n hx hb dX3_sharedClass_19 rfl (lv_at hl 1 rfl) ?_
            refine lv_iconst (v := 5) hx hb dX3_sharedClass_20 (by decide) ?_
            refine lv_icmp_gt (tgt := 34) hx hb dX3_sharedClass_21 (by decide) (fun c_11 => ?_) (fun c_11 => ?_)
            · skip
              refine m_getAB X hS fl_X3_40 rfl dX3_sharedClass_34 ?_
              refine lv_iload_n hx hb dX3_sharedClass_37 rfl (lv_at hl 1 rfl) ?_
              refine m_ldAB X hS (vp_in8 (by first | assumption | exact vp_nl (by assumption)) (by assumption)) dX3_sharedClass_38 ?_
              refine lv_istore_n (lv' := [(2, .int (mAB z.toNatClampNeg)), (3, .int j), (0, .int a), (1, .int b)]) hx hb dX3_sharedClass_39 rfl hl (by decide) rfl (fun ls hl => ?_)
              refine lv_iinc (v := j + 1) (lv' := [(3, .int (j + 1)), (2, .int (mAB z.toNatClampNeg)), (0, .int a), (1, .int b)]) hx hb dX3_sharedClass_40 hl (k := 1) rfl rfl (by decide) rfl (fun ls hl => ?_)
              refine lv_goto (tgt := 4) hx hb dX3_sharedClass_43 (by decide) ?_
              exact ih (t + 1) _ _ H locs ls (by omega) (nadd (a := t) (b := 1) hj rfl) (by rw [he]; clear hb hx hl hS hw hnm hlk hr X he ih; simp_all only [k_sh, if_true, if_false, ite_true, ite_false, false_or, or_false, true_or, or_true, and_true, true_and, and_false, false_and, not_true_eq_false, not_false_eq_true, if_pos, if_neg, reduceIte, bI, Bool.false_eq_true]) hw hS hl
            · skip
              refine lv_iload_n hx hb dX3_sharedClass_24 rfl (lv_at hl 3 rfl) ?_
              refine lv_iload_n hx hb dX3_sharedClass_25 rfl (lv_at hl 1 rfl) ?_
              refine m_calli (m_runS (As := [.int b, .int z]) (rest := []) X (k_X3_isUnder Γ l L (M) b z ) s_X3_isUnder ml_X3_32 hw hS rfl hl.1 ⟨Nat.le_of_ble_eq_true rfl, Nat.le_of_ble_eq_true rfl⟩ (Nat.le_of_ble_eq_true rfl) ⟨Nat.le_of_ble_eq_true rfl, Nat.le_of_ble_eq_true rfl⟩ dX3_sharedClass_26) hS (fun r_13 L1 M1 H locs hp_12 hw hS => ?_)
              obtain ⟨rfl, e1, e2⟩ := hp_12
              rw [e1, e2] at hw; clear e1 e2
              refine lv_if_eq (tgt := 34) hx hb dX3_sharedClass_29 (by decide) (fun c_14 => ?_) (fun c_14 => ?_)
              · skip
                have c_14 := bI_f c_14
                refine m_getAB X hS fl_X3_40 rfl dX3_sharedClass_34 ?_
                refine lv_iload_n hx hb dX3_sharedClass_37 rfl (lv_at hl 1 rfl) ?_
                refine m_ldAB X hS (vp_in8 (by first | assumption | exact vp_nl (by assumption)) (by assumption)) dX3_sharedClass_38 ?_
                refine lv_istore_n (lv' := [(2, .int (mAB z.toNatClampNeg)), (3, .int j), (0, .int a), (1, .int b)]) hx hb dX3_sharedClass_39 rfl hl (by decide) rfl (fun ls hl => ?_)
                refine lv_iinc (v := j + 1) (lv' := [(3, .int (j + 1)), (2, .int (mAB z.toNatClampNeg)), (0, .int a), (1, .int b)]) hx hb dX3_sharedClass_40 hl (k := 1) rfl rfl (by decide) rfl (fun ls hl => ?_)
                refine lv_goto (tgt := 4) hx hb dX3_sharedClass_43 (by decide) ?_
                exact ih (t + 1) _ _ H locs ls (by omega) (nadd (a := t) (b := 1) hj rfl) (by rw [he]; clear hb hx hl hS hw hnm hlk hr X he ih; simp_all only [k_sh, if_true, if_false, ite_true, ite_false, false_or, or_false, true_or, or_true, and_true, true_and, and_false, false_and, not_true_eq_false, not_false_eq_true, if_pos, if_neg, reduceIte, bI, Bool.false_eq_true]) hw hS hl
              · skip
                have c_14 := bI_t c_14
                refine lv_iload_n hx hb dX3_sharedClass_32 rfl (lv_at hl 1 rfl) ?_
                exact m_iret X hr hlk hw hS (Nat.zero_le _) (Nat.zero_le _) (⟨by first | (exfalso; omega) | skip; rw [he]; first | (clear he ih hb hx hl hS hw hnm hlk hr X; simp_all only [k_sh, if_true, if_false, ite_true, ite_false, false_or, or_false, true_or, or_true, and_true, true_and, and_false, false_and, not_true_eq_false, not_false_eq_true, if_pos, if_neg, reduceIte, bI, Bool.false_eq_true]; done) | skip; clear he ih hb hx hl hS hw hnm hlk hr X; first | rfl | (simp_all [bI, k_sh]; done) | (simp_all [bI, k_sh]; rfl), rfl, rfl⟩) dX3_sharedClass_33
  refine lv_iload_n hx hb dX3_sharedClass_0 rfl (lv_at hl 0 rfl) ?_
  refine lv_istore_n (lv' := [(2, .int a), (0, .int a), (1, .int b)]) hx hb dX3_sharedClass_1 rfl hl (by decide) rfl (fun ls hl => ?_)
  refine lv_iconst (v := 0) hx hb dX3_sharedClass_2 (by decide) ?_
  refine lv_istore_n (lv' := [(3, .int 0), (2, .int a), (0, .int a), (1, .int b)]) hx hb dX3_sharedClass_3 rfl hl (by decide) rfl (fun ls hl => ?_)
  exact KL 5 0 _ _ _ _ ls rfl rfl rfl hw hS hl
theorem s_X3_joinOf : mSm yX3_joinOf cX3_joinOf 2 (some .int) 2 := ⟨cd_X3_joinOf, st_X3_joinOf, ini_X3, by decide, by decide, by decide +kernel⟩
set_option maxHeartbeats 4000000 in
set_option maxRecDepth 100000 in
theorem k_X3_joinOf (Γ : mG) (l : Launch) (L : mI → Nat) (M : mM) (a : Int32) (b : Int32)  : mMet Γ l yX3_joinOf cX3_joinOf 2 (some .int) { frames := 2, cells := 0, slots := 0, locals := 44 } [.int a, .int b] L M (mQi Γ (fun r L1 M1 => r = k_join a b ∧ L1 = L ∧ M1 = M)) := by
  refine m_start (by decide) (Nat.le_of_ble_eq_true rfl) ?_
  intro p e s m args below meth c A ls X hr hlk hnm hw hS hl
  have hx := X.1.1
  have hb := X.1.2.1
  have hl : lv_has ls 2 [(0, .int a), (1, .int b)] := hl
  have K3 : ∀ (H : Heap) (locs : List Loc) (ls : Array Slot), k_join a b = k_join3 a b → mW Γ.1 vwCl A L M H → va_S A s.heap H locs → lv_has ls 2 [(0, .int a), (1, .int b)] → W p l e { frames := 2, cells := 0, slots := 0, locals := 44 } s m args below meth c H locs 0 0 (MQ below (mQi Γ (fun r L1 M1 => r = k_join a b ∧ L1 = L ∧ M1 = M) A) args s 0 0 A) (F0 m 93 ls []) := by
    intro H locs ls he hw hS hl
    refine lv_iload_n hx hb dX3_joinOf_93 rfl (lv_at hl 0 rfl) ?_
    refine m_calli (m_runS (As := [.int a]) (rest := []) X (k_X3_isReference Γ l L (M) a ) s_X3_isReference ml_X3_29 hw hS rfl hl.1 ⟨Nat.le_of_ble_eq_true rfl, Nat.le_of_ble_eq_true rfl⟩ (Nat.le_of_ble_eq_true rfl) ⟨Nat.le_of_ble_eq_true rfl, Nat.le_of_ble_eq_true rfl⟩ dX3_joinOf_94) hS (fun r_2 L1 M1 H locs hp_1 hw hS => ?_)
    obtain ⟨rfl, e1, e2⟩ := hp_1
    rw [e1, e2] at hw; clear e1 e2
    refine lv_if_eq (tgt := 112) hx hb dX3_joinOf_97 (by decide) (fun c_3 => ?_) (fun c_3 => ?_)
    · skip
      have c_3 := bI_f c_3
      refine lv_iconst (v := 0) hx hb dX3_joinOf_112 (by decide) ?_
      exact m_iret X hr hlk hw hS (Nat.zero_le _) (Nat.zero_le _) (⟨by rw [he]; clear he  hb hx hl hS hw hnm hlk hr X; first | rfl | (simp_all [bI, k_join3]; done) | (simp_all [bI, k_join3]; rfl), rfl, rfl⟩) dX3_joinOf_113
    · skip
      have c_3 := bI_t c_3
      refine lv_iload_n hx hb dX3_joinOf_100 rfl (lv_at hl 1 rfl) ?_
      refine m_calli (m_runS (As := [.int b]) (rest := []) X (k_X3_isReference Γ l L (M) b ) s_X3_isReference ml_X3_29 hw hS rfl hl.1 ⟨Nat.le_of_ble_eq_true rfl, Nat.le_of_ble_eq_true rfl⟩ (Nat.le_of_ble_eq_true rfl) ⟨Nat.le_of_ble_eq_true rfl, Nat.le_of_ble_eq_true rfl⟩ dX3_joinOf_101) hS (fun r_5 L1 M1 H locs hp_4 hw hS => ?_)
      obtain ⟨rfl, e1, e2⟩ := hp_4
      rw [e1, e2] at hw; clear e1 e2
      refine lv_if_eq (tgt := 112) hx hb dX3_joinOf_104 (by decide) (fun c_6 => ?_) (fun c_6 => ?_)
      · skip
        have c_6 := bI_f c_6
        refine lv_iconst (v := 0) hx hb dX3_joinOf_112 (by decide) ?_
        exact m_iret X hr hlk hw hS (Nat.zero_le _) (Nat.zero_le _) (⟨by rw [he]; clear he  hb hx hl hS hw hnm hlk hr X; first | rfl | (simp_all [bI, k_join3]; done) | (simp_all [bI, k_join3]; rfl), rfl, rfl⟩) dX3_joinOf_113
      · skip
        have c_6 := bI_t c_6
        refine lv_bipush (v := 10) hx hb dX3_joinOf_107 (by decide) ?_
        refine lv_goto (tgt := 113) hx hb dX3_joinOf_109 (by decide) ?_
        exact m_iret X hr hlk hw hS (Nat.zero_le _) (Nat.zero_le _) (⟨by rw [he]; clear he  hb hx hl hS hw hnm hlk hr X; first | rfl | (simp_all [bI, k_join3]; done) | (simp_all [bI, k_join3]; rfl), rfl, rfl⟩) dX3_joinOf_113
  have K2 : ∀ (H : Heap) (locs : List Loc) (ls : Array Slot), k_join a b = k_join2 a b → mW Γ.1 vwCl A L M H → va_S A s.heap H locs → lv_has ls 2 [(0, .int a), (1, .int b)] → W p l e { frames := 2, cells := 0, slots := 0, locals := 44 } s m args below meth c H locs 0 0 (MQ below (mQi Γ (fun r L1 M1 => r = k_join a b ∧ L1 = L ∧ M1 = M) A) args s 0 0 A) (F0 m 64 ls []) := by
    intro H locs ls he hw hS hl
    refine lv_iload_n hx hb dX3_joinOf_64 rfl (lv_at hl 0 rfl) ?_
    refine m_calli (m_runS (As := [.int a]) (rest := []) X (k_X3_isRow Γ l L (M) a ) s_X3_isRow ml_X3_19 hw hS rfl hl.1 ⟨Nat.le_of_ble_eq_true rfl, Nat.le_of_ble_eq_true rfl⟩ (Nat.le_of_ble_eq_true rfl) ⟨Nat.le_of_ble_eq_true rfl, Nat.le_of_ble_eq_true rfl⟩ dX3_joinOf_65) hS (fun r_8 L1 M1 H locs hp_7 hw hS => ?_)
    obtain ⟨rfl, e1, e2⟩ := hp_7
    rw [e1, e2] at hw; clear e1 e2
    refine lv_if_eq (tgt := 93) hx hb dX3_joinOf_68 (by decide) (fun c_9 => ?_) (fun c_9 => ?_)
    · skip
      have c_9 := bI_f c_9
      exact K3 H locs ls (by rw [he]; clear hb hx hl hS hw hnm hlk hr X he; simp_all [k_join2]) hw hS hl
    · skip
      have c_9 := bI_t c_9
      refine lv_iload_n hx hb dX3_joinOf_71 rfl (lv_at hl 1 rfl) ?_
      refine m_calli (m_runS (As := [.int b]) (rest := []) X (k_X3_isRow Γ l L (M) b ) s_X3_isRow ml_X3_19 hw hS rfl hl.1 ⟨Nat.le_of_ble_eq_true rfl, Nat.le_of_ble_eq_true rfl⟩ (Nat.le_of_ble_eq_true rfl) ⟨Nat.le_of_ble_eq_true rfl, Nat.le_of_ble_eq_true rfl⟩ dX3_joinOf_72) hS (fun r_11 L1 M1 H locs hp_10 hw hS => ?_)
      obtain ⟨rfl, e1, e2⟩ := hp_10
      rw [e1, e2] at hw; clear e1 e2
      refine lv_if_eq (tgt := 93) hx hb dX3_joinOf_75 (by decide) (fun c_12 => ?_) (fun c_12 => ?_)
      · skip
        have c_12 := bI_f c_12
        exact K3 H locs ls (by rw [he]; clear hb hx hl hS hw hnm hlk hr X he; simp_all [k_join2]) hw hS hl
      · skip
        have c_12 := bI_t c_12
        refine lv_bipush (v := 20) hx hb dX3_joinOf_78 (by decide) ?_
        refine lv_iload_n hx hb dX3_joinOf_80 rfl (lv_at hl 0 rfl) ?_
        refine lv_bipush (v := 20) hx hb dX3_joinOf_81 (by decide) ?_
        refine lv_isub hx hb dX3_joinOf_83 ?_
        refine lv_iload_n hx hb dX3_joinOf_84 rfl (lv_at hl 1 rfl) ?_
        refine lv_bipush (v := 20) hx hb dX3_joinOf_85 (by decide) ?_
        refine lv_isub hx hb dX3_joinOf_87 ?_
        refine m_calli (m_runS (As := [.int (a - 20), .int (b - 20)]) (rest := [.int 20]) X (k_X3_sharedClass Γ l L (M) (a - 20) (b - 20) ) s_X3_sharedClass ml_X3_36 hw hS rfl hl.1 ⟨Nat.le_of_ble_eq_true rfl, Nat.le_of_ble_eq_true rfl⟩ (Nat.le_of_ble_eq_true rfl) ⟨Nat.le_of_ble_eq_true rfl, Nat.le_of_ble_eq_true rfl⟩ dX3_joinOf_88) hS (fun r_14 L1 M1 H locs hp_13 hw hS => ?_)
        obtain ⟨rfl, e1, e2⟩ := hp_13
        rw [e1, e2] at hw; clear e1 e2
        refine lv_iadd hx hb dX3_joinOf_91 ?_
        exact m_iret X hr hlk hw hS (Nat.zero_le _) (Nat.zero_le _) (⟨by rw [he]; clear he K3 hb hx hl hS hw hnm hlk hr X; first | rfl | (simp_all [bI, k_join2]; done) | (simp_all [bI, k_join2]; rfl), rfl, rfl⟩) dX3_joinOf_92
  have K1 : ∀ (H : Heap) (locs : List Loc) (ls : Array Slot), k_join a b = k_join1 a b → mW Γ.1 vwCl A L M H → va_S A s.heap H locs → lv_has ls 2 [(0, .int a), (1, .int b)] → W p l e { frames := 2, cells := 0, slots := 0, locals := 44 } s m args below meth c H locs 0 0 (MQ below (mQi Γ (fun r L1 M1 => r = k_join a b ∧ L1 = L ∧ M1 = M) A) args s 0 0 A) (F0 m 35 ls []) := by
    intro H locs ls he hw hS hl
    refine lv_iload_n hx hb dX3_joinOf_35 rfl (lv_at hl 0 rfl) ?_
    refine m_calli (m_runS (As := [.int a]) (rest := []) X (k_X3_isObject Γ l L (M) a ) s_X3_isObject ml_X3_15 hw hS rfl hl.1 ⟨Nat.le_of_ble_eq_true rfl, Nat.le_of_ble_eq_true rfl⟩ (Nat.le_of_ble_eq_true rfl) ⟨Nat.le_of_ble_eq_true rfl, Nat.le_of_ble_eq_true rfl⟩ dX3_joinOf_36) hS (fun r_16 L1 M1 H locs hp_15 hw hS => ?_)
    obtain ⟨rfl, e1, e2⟩ := hp_15
    rw [e1, e2] at hw; clear e1 e2
    refine lv_if_eq (tgt := 64) hx hb dX3_joinOf_39 (by decide) (fun c_17 => ?_) (fun c_17 => ?_)
    · skip
      have c_17 := bI_f c_17
      exact K2 H locs ls (by rw [he]; clear hb hx hl hS hw hnm hlk hr X he; simp_all [k_join1]) hw hS hl
    · skip
      have c_17 := bI_t c_17
      refine lv_iload_n hx hb dX3_joinOf_42 rfl (lv_at hl 1 rfl) ?_
      refine m_calli (m_runS (As := [.int b]) (rest := []) X (k_X3_isObject Γ l L (M) b ) s_X3_isObject ml_X3_15 hw hS rfl hl.1 ⟨Nat.le_of_ble_eq_true rfl, Nat.le_of_ble_eq_true rfl⟩ (Nat.le_of_ble_eq_true rfl) ⟨Nat.le_of_ble_eq_true rfl, Nat.le_of_ble_eq_true rfl⟩ dX3_joinOf_43) hS (fun r_19 L1 M1 H locs hp_18 hw hS => ?_)
      obtain ⟨rfl, e1, e2⟩ := hp_18
      rw [e1, e2] at hw; clear e1 e2
      refine lv_if_eq (tgt := 64) hx hb dX3_joinOf_46 (by decide) (fun c_20 => ?_) (fun c_20 => ?_)
      · skip
        have c_20 := bI_f c_20
        exact K2 H locs ls (by rw [he]; clear hb hx hl hS hw hnm hlk hr X he; simp_all [k_join1]) hw hS hl
      · skip
        have c_20 := bI_t c_20
        refine lv_bipush (v := 10) hx hb dX3_joinOf_49 (by decide) ?_
        refine lv_iload_n hx hb dX3_joinOf_51 rfl (lv_at hl 0 rfl) ?_
        refine lv_bipush (v := 10) hx hb dX3_joinOf_52 (by decide) ?_
        refine lv_isub hx hb dX3_joinOf_54 ?_
        refine lv_iload_n hx hb dX3_joinOf_55 rfl (lv_at hl 1 rfl) ?_
        refine lv_bipush (v := 10) hx hb dX3_joinOf_56 (by decide) ?_
        refine lv_isub hx hb dX3_joinOf_58 ?_
        refine m_calli (m_runS (As := [.int (a - 10), .int (b - 10)]) (rest := [.int 10]) X (k_X3_sharedClass Γ l L (M) (a - 10) (b - 10) ) s_X3_sharedClass ml_X3_36 hw hS rfl hl.1 ⟨Nat.le_of_ble_eq_true rfl, Nat.le_of_ble_eq_true rfl⟩ (Nat.le_of_ble_eq_true rfl) ⟨Nat.le_of_ble_eq_true rfl, Nat.le_of_ble_eq_true rfl⟩ dX3_joinOf_59) hS (fun r_22 L1 M1 H locs hp_21 hw hS => ?_)
        obtain ⟨rfl, e1, e2⟩ := hp_21
        rw [e1, e2] at hw; clear e1 e2
        refine lv_iadd hx hb dX3_joinOf_62 ?_
        exact m_iret X hr hlk hw hS (Nat.zero_le _) (Nat.zero_le _) (⟨by rw [he]; clear he K3 K2 hb hx hl hS hw hnm hlk hr X; first | rfl | (simp_all [bI, k_join1]; done) | (simp_all [bI, k_join1]; rfl), rfl, rfl⟩) dX3_joinOf_63
  refine lv_iload_n hx hb dX3_joinOf_0 rfl (lv_at hl 0 rfl) ?_
  refine lv_iload_n hx hb dX3_joinOf_1 rfl (lv_at hl 1 rfl) ?_
  refine lv_icmp_ne (tgt := 7) hx hb dX3_joinOf_2 (by decide) (fun c_23 => ?_) (fun c_23 => ?_)
  · skip
    refine lv_iload_n hx hb dX3_joinOf_7 rfl (lv_at hl 0 rfl) ?_
    refine lv_iconst (v := 4) hx hb dX3_joinOf_8 (by decide) ?_
    refine lv_icmp_ne (tgt := 21) hx hb dX3_joinOf_9 (by decide) (fun c_24 => ?_) (fun c_24 => ?_)
    · skip
      refine lv_iload_n hx hb dX3_joinOf_21 rfl (lv_at hl 1 rfl) ?_
      refine lv_iconst (v := 4) hx hb dX3_joinOf_22 (by decide) ?_
      refine lv_icmp_ne (tgt := 35) hx hb dX3_joinOf_23 (by decide) (fun c_25 => ?_) (fun c_25 => ?_)
      · skip
        exact K1 _ _ ls (by clear K1 K2 K3 hb hx hl hS hw hnm hlk hr X; simp_all [k_join]) hw hS hl
      · skip
        refine lv_iload_n hx hb dX3_joinOf_26 rfl (lv_at hl 0 rfl) ?_
        refine m_calli (m_runS (As := [.int a]) (rest := []) X (k_X3_isReference Γ l L (M) a ) s_X3_isReference ml_X3_29 hw hS rfl hl.1 ⟨Nat.le_of_ble_eq_true rfl, Nat.le_of_ble_eq_true rfl⟩ (Nat.le_of_ble_eq_true rfl) ⟨Nat.le_of_ble_eq_true rfl, Nat.le_of_ble_eq_true rfl⟩ dX3_joinOf_27) hS (fun r_27 L1 M1 H locs hp_26 hw hS => ?_)
        obtain ⟨rfl, e1, e2⟩ := hp_26
        rw [e1, e2] at hw; clear e1 e2
        refine lv_if_eq (tgt := 35) hx hb dX3_joinOf_30 (by decide) (fun c_28 => ?_) (fun c_28 => ?_)
        · skip
          have c_28 := bI_f c_28
          exact K1 _ _ ls (by clear K1 K2 K3 hb hx hl hS hw hnm hlk hr X; simp_all [k_join]) hw hS hl
        · skip
          have c_28 := bI_t c_28
          refine lv_iload_n hx hb dX3_joinOf_33 rfl (lv_at hl 0 rfl) ?_
          exact m_iret X hr hlk hw hS (Nat.zero_le _) (Nat.zero_le _) (⟨by clear K1 K2 K3 hb hx hl hS hw hnm hlk hr X; first | rfl | (simp_all [bI, k_join]; done) | (simp_all [bI, k_join]; rfl), rfl, rfl⟩) dX3_joinOf_34
    · skip
      refine lv_iload_n hx hb dX3_joinOf_12 rfl (lv_at hl 1 rfl) ?_
      refine m_calli (m_runS (As := [.int b]) (rest := []) X (k_X3_isReference Γ l L (M) b ) s_X3_isReference ml_X3_29 hw hS rfl hl.1 ⟨Nat.le_of_ble_eq_true rfl, Nat.le_of_ble_eq_true rfl⟩ (Nat.le_of_ble_eq_true rfl) ⟨Nat.le_of_ble_eq_true rfl, Nat.le_of_ble_eq_true rfl⟩ dX3_joinOf_13) hS (fun r_30 L1 M1 H locs hp_29 hw hS => ?_)
      obtain ⟨rfl, e1, e2⟩ := hp_29
      rw [e1, e2] at hw; clear e1 e2
      refine lv_if_eq (tgt := 21) hx hb dX3_joinOf_16 (by decide) (fun c_31 => ?_) (fun c_31 => ?_)
      · skip
        have c_31 := bI_f c_31
        refine lv_iload_n hx hb dX3_joinOf_21 rfl (lv_at hl 1 rfl) ?_
        refine lv_iconst (v := 4) hx hb dX3_joinOf_22 (by decide) ?_
        refine lv_icmp_ne (tgt := 35) hx hb dX3_joinOf_23 (by decide) (fun c_32 => ?_) (fun c_32 => ?_)
        · skip
          exact K1 _ _ ls (by clear K1 K2 K3 hb hx hl hS hw hnm hlk hr X; simp_all [k_join]) hw hS hl
        · skip
          refine lv_iload_n hx hb dX3_joinOf_26 rfl (lv_at hl 0 rfl) ?_
          refine m_calli (m_runS (As := [.int a]) (rest := []) X (k_X3_isReference Γ l L (M) a ) s_X3_isReference ml_X3_29 hw hS rfl hl.1 ⟨Nat.le_of_ble_eq_true rfl, Nat.le_of_ble_eq_true rfl⟩ (Nat.le_of_ble_eq_true rfl) ⟨Nat.le_of_ble_eq_true rfl, Nat.le_of_ble_eq_true rfl⟩ dX3_joinOf_27) hS (fun r_34 L1 M1 H locs hp_33 hw hS => ?_)
          obtain ⟨rfl, e1, e2⟩ := hp_33
          rw [e1, e2] at hw; clear e1 e2
          refine lv_if_eq (tgt := 35) hx hb dX3_joinOf_30 (by decide) (fun c_35 => ?_) (fun c_35 => ?_)
          · skip
            have c_35 := bI_f c_35
            exact K1 _ _ ls (by clear K1 K2 K3 hb hx hl hS hw hnm hlk hr X; simp_all [k_join]) hw hS hl
          · skip
            have c_35 := bI_t c_35
            refine lv_iload_n hx hb dX3_joinOf_33 rfl (lv_at hl 0 rfl) ?_
            exact m_iret X hr hlk hw hS (Nat.zero_le _) (Nat.zero_le _) (⟨by clear K1 K2 K3 hb hx hl hS hw hnm hlk hr X; first | rfl | (simp_all [bI, k_join]; done) | (simp_all [bI, k_join]; rfl), rfl, rfl⟩) dX3_joinOf_34
      · skip
        have c_31 := bI_t c_31
        refine lv_iload_n hx hb dX3_joinOf_19 rfl (lv_at hl 1 rfl) ?_
        exact m_iret X hr hlk hw hS (Nat.zero_le _) (Nat.zero_le _) (⟨by clear K1 K2 K3 hb hx hl hS hw hnm hlk hr X; first | rfl | (simp_all [bI, k_join]; done) | (simp_all [bI, k_join]; rfl), rfl, rfl⟩) dX3_joinOf_20
  · skip
    refine lv_iload_n hx hb dX3_joinOf_5 rfl (lv_at hl 0 rfl) ?_
    exact m_iret X hr hlk hw hS (Nat.zero_le _) (Nat.zero_le _) (⟨by clear K1 K2 K3 hb hx hl hS hw hnm hlk hr X; first | rfl | (simp_all [bI, k_join]; done) | (simp_all [bI, k_join]; rfl), rfl, rfl⟩) dX3_joinOf_6
