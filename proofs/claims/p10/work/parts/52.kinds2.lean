/-! more of the class's Kinds -/
def k_one (k : Int32) : Bool := decide (k = 1) || !decide (k < 4)
def k_cls (a : Int64) : Bool := !decide (a < 1) && !decide (5 < a)
def k_cof (a : Int64) : Bool := !decide (a < 0) && !decide (7 < a)
theorem s_X3_isOnePlace : mSm yX3_isOnePlace cX3_isOnePlace 1 (some .boolean) 1 := ⟨cd_X3_isOnePlace, st_X3_isOnePlace, ini_X3, by decide, by decide, by decide +kernel⟩
set_option maxHeartbeats 4000000 in
set_option maxRecDepth 100000 in
theorem k_X3_isOnePlace (Γ : mG) (l : Launch) (L : mI → Nat) (M : mM) (a : Int32)  : mMet Γ l yX3_isOnePlace cX3_isOnePlace 1 (some .boolean) { frames := 0, cells := 0, slots := 0, locals := 0 } [.int a] L M (mQi Γ (fun r L1 M1 => r = bI (k_one a) ∧ L1 = L ∧ M1 = M)) := by
  refine m_start (by decide) (Nat.le_of_ble_eq_true rfl) ?_
  intro p e s m args below meth c A ls X hr hlk hnm hw hS hl
  have hx := X.1.1
  have hb := X.1.2.1
  have hl : lv_has ls 1 [(0, .int a)] := hl
  refine lv_iload_n hx hb dX3_isOnePlace_0 rfl (lv_at hl 0 rfl) ?_
  refine lv_iconst (v := 1) hx hb dX3_isOnePlace_1 (by decide) ?_
  refine lv_icmp_eq (tgt := 10) hx hb dX3_isOnePlace_2 (by decide) (fun c_1 => ?_) (fun c_1 => ?_)
  · skip
    refine lv_iconst (v := 1) hx hb dX3_isOnePlace_10 (by decide) ?_
    refine lv_goto (tgt := 15) hx hb dX3_isOnePlace_11 (by decide) ?_
    exact m_zret (b := k_one a) X hr hlk hw hS (Nat.zero_le _) (Nat.zero_le _) (by clear hb hx hl hS hw hnm hlk hr X; first | rfl | (simp_all [bI, k_one]; done) | (simp_all [bI, k_one]; rfl)) (⟨rfl, rfl, rfl⟩) dX3_isOnePlace_15
  · skip
    refine lv_iload_n hx hb dX3_isOnePlace_5 rfl (lv_at hl 0 rfl) ?_
    refine lv_iconst (v := 4) hx hb dX3_isOnePlace_6 (by decide) ?_
    refine lv_icmp_lt (tgt := 14) hx hb dX3_isOnePlace_7 (by decide) (fun c_2 => ?_) (fun c_2 => ?_)
    · skip
      refine lv_iconst (v := 0) hx hb dX3_isOnePlace_14 (by decide) ?_
      exact m_zret (b := k_one a) X hr hlk hw hS (Nat.zero_le _) (Nat.zero_le _) (by clear hb hx hl hS hw hnm hlk hr X; first | rfl | (simp_all [bI, k_one]; done) | (simp_all [bI, k_one]; rfl)) (⟨rfl, rfl, rfl⟩) dX3_isOnePlace_15
    · skip
      refine lv_iconst (v := 1) hx hb dX3_isOnePlace_10 (by decide) ?_
      refine lv_goto (tgt := 15) hx hb dX3_isOnePlace_11 (by decide) ?_
      exact m_zret (b := k_one a) X hr hlk hw hS (Nat.zero_le _) (Nat.zero_le _) (by clear hb hx hl hS hw hnm hlk hr X; first | rfl | (simp_all [bI, k_one]; done) | (simp_all [bI, k_one]; rfl)) (⟨rfl, rfl, rfl⟩) dX3_isOnePlace_15
theorem s_X3_isClass : mSm yX3_isClass cX3_isClass 2 (some .boolean) 1 := ⟨cd_X3_isClass, st_X3_isClass, ini_X3, by decide, by decide, by decide +kernel⟩
set_option maxHeartbeats 4000000 in
set_option maxRecDepth 100000 in
theorem k_X3_isClass (Γ : mG) (l : Launch) (L : mI → Nat) (M : mM) (a : Int64)  : mMet Γ l yX3_isClass cX3_isClass 2 (some .boolean) { frames := 0, cells := 0, slots := 0, locals := 0 } [.long a] L M (mQi Γ (fun r L1 M1 => r = bI (k_cls a) ∧ L1 = L ∧ M1 = M)) := by
  refine m_start (by decide) (Nat.le_of_ble_eq_true rfl) ?_
  intro p e s m args below meth c A ls X hr hlk hnm hw hS hl
  have hx := X.1.1
  have hb := X.1.2.1
  have hl : lv_has ls 2 [(0, .long a)] := hl
  refine lv_lload_n hx hb dX3_isClass_0 rfl (lv_at hl 0 rfl) ?_
  refine lv_lconst (v := 1) hx hb dX3_isClass_1 (by decide) ?_
  refine m_lcmp_lt (tgt := 18) hx hb dX3_isClass_2 dX3_isClass_3 (by decide) (fun c_1 => ?_) (fun c_1 => ?_)
  · skip
    refine lv_iconst (v := 0) hx hb dX3_isClass_18 (by decide) ?_
    exact m_zret (b := k_cls a) X hr hlk hw hS (Nat.zero_le _) (Nat.zero_le _) (by clear hb hx hl hS hw hnm hlk hr X; first | rfl | (simp_all [bI, k_cls]; done) | (simp_all [bI, k_cls]; rfl)) (⟨rfl, rfl, rfl⟩) dX3_isClass_19
  · skip
    refine lv_lload_n hx hb dX3_isClass_6 rfl (lv_at hl 0 rfl) ?_
    refine lv_ldc2 (v := (5)) hx hb X.1.2.2.2.1 (X.1.2.2.2.2 _ kl_X3_9) dX3_isClass_7 ?_
    refine m_lcmp_gt (tgt := 18) hx hb dX3_isClass_10 dX3_isClass_11 (by decide) (fun c_2 => ?_) (fun c_2 => ?_)
    · skip
      refine lv_iconst (v := 0) hx hb dX3_isClass_18 (by decide) ?_
      exact m_zret (b := k_cls a) X hr hlk hw hS (Nat.zero_le _) (Nat.zero_le _) (by clear hb hx hl hS hw hnm hlk hr X; first | rfl | (simp_all [bI, k_cls]; done) | (simp_all [bI, k_cls]; rfl)) (⟨rfl, rfl, rfl⟩) dX3_isClass_19
    · skip
      refine lv_iconst (v := 1) hx hb dX3_isClass_14 (by decide) ?_
      refine lv_goto (tgt := 19) hx hb dX3_isClass_15 (by decide) ?_
      exact m_zret (b := k_cls a) X hr hlk hw hS (Nat.zero_le _) (Nat.zero_le _) (by clear hb hx hl hS hw hnm hlk hr X; first | rfl | (simp_all [bI, k_cls]; done) | (simp_all [bI, k_cls]; rfl)) (⟨rfl, rfl, rfl⟩) dX3_isClass_19
theorem s_X3_isClassOrFace : mSm yX3_isClassOrFace cX3_isClassOrFace 2 (some .boolean) 1 := ⟨cd_X3_isClassOrFace, st_X3_isClassOrFace, ini_X3, by decide, by decide, by decide +kernel⟩
set_option maxHeartbeats 4000000 in
set_option maxRecDepth 100000 in
theorem k_X3_isClassOrFace (Γ : mG) (l : Launch) (L : mI → Nat) (M : mM) (a : Int64)  : mMet Γ l yX3_isClassOrFace cX3_isClassOrFace 2 (some .boolean) { frames := 0, cells := 0, slots := 0, locals := 0 } [.long a] L M (mQi Γ (fun r L1 M1 => r = bI (k_cof a) ∧ L1 = L ∧ M1 = M)) := by
  refine m_start (by decide) (Nat.le_of_ble_eq_true rfl) ?_
  intro p e s m args below meth c A ls X hr hlk hnm hw hS hl
  have hx := X.1.1
  have hb := X.1.2.1
  have hl : lv_has ls 2 [(0, .long a)] := hl
  refine lv_lload_n hx hb dX3_isClassOrFace_0 rfl (lv_at hl 0 rfl) ?_
  refine lv_lconst (v := 0) hx hb dX3_isClassOrFace_1 (by decide) ?_
  refine m_lcmp_lt (tgt := 18) hx hb dX3_isClassOrFace_2 dX3_isClassOrFace_3 (by decide) (fun c_1 => ?_) (fun c_1 => ?_)
  · skip
    refine lv_iconst (v := 0) hx hb dX3_isClassOrFace_18 (by decide) ?_
    exact m_zret (b := k_cof a) X hr hlk hw hS (Nat.zero_le _) (Nat.zero_le _) (by clear hb hx hl hS hw hnm hlk hr X; first | rfl | (simp_all [bI, k_cof]; done) | (simp_all [bI, k_cof]; rfl)) (⟨rfl, rfl, rfl⟩) dX3_isClassOrFace_19
  · skip
    refine lv_lload_n hx hb dX3_isClassOrFace_6 rfl (lv_at hl 0 rfl) ?_
    refine lv_ldc2 (v := (7)) hx hb X.1.2.2.2.1 (X.1.2.2.2.2 _ kl_X3_11) dX3_isClassOrFace_7 ?_
    refine m_lcmp_gt (tgt := 18) hx hb dX3_isClassOrFace_10 dX3_isClassOrFace_11 (by decide) (fun c_2 => ?_) (fun c_2 => ?_)
    · skip
      refine lv_iconst (v := 0) hx hb dX3_isClassOrFace_18 (by decide) ?_
      exact m_zret (b := k_cof a) X hr hlk hw hS (Nat.zero_le _) (Nat.zero_le _) (by clear hb hx hl hS hw hnm hlk hr X; first | rfl | (simp_all [bI, k_cof]; done) | (simp_all [bI, k_cof]; rfl)) (⟨rfl, rfl, rfl⟩) dX3_isClassOrFace_19
    · skip
      refine lv_iconst (v := 1) hx hb dX3_isClassOrFace_14 (by decide) ?_
      refine lv_goto (tgt := 19) hx hb dX3_isClassOrFace_15 (by decide) ?_
      exact m_zret (b := k_cof a) X hr hlk hw hS (Nat.zero_le _) (Nat.zero_le _) (by clear hb hx hl hS hw hnm hlk hr X; first | rfl | (simp_all [bI, k_cof]; done) | (simp_all [bI, k_cof]; rfl)) (⟨rfl, rfl, rfl⟩) dX3_isClassOrFace_19
