/-! the reference's machine: numbers, the stack -/
def r_arith (a : Int64) (u v : Int32) : Int32 := if a = 0 then u + v else if a = 1 then u - v else if a = 2 then u * v else if a = 3 then u / v else u - u / v * v
def r_arithL (a u v : Int64) : Int64 := if a = 0 then u + v else if a = 1 then u - v else if a = 2 then u * v else if a = 3 then u / v else u - u / v * v
def r_isOf (x : RS) (t : Nat) (b : Int32) : Bool := decide (b = 0) || (decide (x.2.1 24 t < 6) && r_under (x.2.1 24 t) b)
def r_worth (x : RS) (t : Nat) : Int32 := if x.2.1 24 t = 1 then 1 + x.2.1 26 t else if x.2.1 24 t = 2 then 2 * (1 + x.2.1 26 t) else if x.2.1 24 t = 3 then 10 + (1 + x.2.1 26 t) else if x.2.1 24 t = 4 then 2 * (1 + x.2.1 26 t) - 10 + (100 + x.2.1 26 t) else 100 + x.2.1 26 t
def r_put (x : RS) (f g : Nat) (v : Int64) : RS := sA (sJ x 18 (16 * f + 8 + g) v) 19 f (nI (g + 1))
def r_put2 (x : RS) (f g : Nat) (v : Int64) : RS := r_put (r_put x f g v) f (g + 1) 0
theorem s_X10_arith : mSm yX10_arith cX10_arith 4 (some .int) 3 := ⟨cd_X10_arith, st_X10_arith, ini_X10, by decide, by decide, by decide +kernel⟩
set_option maxHeartbeats 4000000 in
set_option maxRecDepth 100000 in
theorem k_X10_arith (Γ : mG) (l : Launch) (L : mI → Nat) (M : mM) (a : Int64) (u : Int32) (v : Int32) (hz : a = 0 ∨ a = 1 ∨ a = 2 ∨ ¬ v = 0) : mMet Γ l yX10_arith cX10_arith 4 (some .int) { frames := 0, cells := 0, slots := 0, locals := 0 } [.long a, .int u, .int v] L M (mQi Γ (fun r L1 M1 => r = r_arith a u v ∧ L1 = L ∧ M1 = M)) := by
  refine m_start (by decide) (Nat.le_of_ble_eq_true rfl) ?_
  intro p e s m args below meth c A ls X hr hlk hnm hw hS hl
  have hx := X.1.1
  have hb := X.1.2.1
  have hl : lv_has ls 4 [(0, .long a), (2, .int u), (3, .int v)] := hl
  refine lv_lload_n hx hb dX10_arith_0 rfl (lv_at hl 0 rfl) ?_
  refine lv_lconst (v := 0) hx hb dX10_arith_1 (by decide) ?_
  refine m_lcmp_ne (tgt := 12) hx hb dX10_arith_2 dX10_arith_3 (by decide) (fun c_1 => ?_) (fun c_1 => ?_)
  · skip
    refine lv_lload_n hx hb dX10_arith_12 rfl (lv_at hl 0 rfl) ?_
    refine lv_lconst (v := 1) hx hb dX10_arith_13 (by decide) ?_
    refine m_lcmp_ne (tgt := 24) hx hb dX10_arith_14 dX10_arith_15 (by decide) (fun c_2 => ?_) (fun c_2 => ?_)
    · skip
      refine lv_lload_n hx hb dX10_arith_24 rfl (lv_at hl 0 rfl) ?_
      refine lv_ldc2 (v := (2)) hx hb X.1.2.2.2.1 (X.1.2.2.2.2 _ kl_X10_276) dX10_arith_25 ?_
      refine m_lcmp_ne (tgt := 38) hx hb dX10_arith_28 dX10_arith_29 (by decide) (fun c_3 => ?_) (fun c_3 => ?_)
      · skip
        refine lv_lload_n hx hb dX10_arith_38 rfl (lv_at hl 0 rfl) ?_
        refine lv_ldc2 (v := (3)) hx hb X.1.2.2.2.1 (X.1.2.2.2.2 _ kl_X10_278) dX10_arith_39 ?_
        refine m_lcmp_ne (tgt := 52) hx hb dX10_arith_42 dX10_arith_43 (by decide) (fun c_4 => ?_) (fun c_4 => ?_)
        · skip
          refine lv_iload_n hx hb dX10_arith_52 rfl (lv_at hl 1 rfl) ?_
          refine lv_iload_n hx hb dX10_arith_53 rfl (lv_at hl 2 rfl) ?_
          refine lv_irem hx hb dX10_arith_54 (by first | assumption | (rcases hz with z | z | z | z <;> first | exact absurd z (by assumption) | exact z)) ?_
          exact m_iret X hr hlk hw hS (Nat.zero_le _) (Nat.zero_le _) (⟨by clear hz hb hx hl hS hw hnm hlk hr X; first | rfl | (simp_all [bI, r_arith]; done) | (simp_all [bI, r_arith]; rfl), rfl, rfl⟩) dX10_arith_55
        · skip
          refine lv_iload_n hx hb dX10_arith_46 rfl (lv_at hl 1 rfl) ?_
          refine lv_iload_n hx hb dX10_arith_47 rfl (lv_at hl 2 rfl) ?_
          refine lv_idiv hx hb dX10_arith_48 (by first | assumption | (rcases hz with z | z | z | z <;> first | exact absurd z (by assumption) | exact z)) ?_
          refine lv_goto (tgt := 55) hx hb dX10_arith_49 (by decide) ?_
          exact m_iret X hr hlk hw hS (Nat.zero_le _) (Nat.zero_le _) (⟨by clear hz hb hx hl hS hw hnm hlk hr X; first | rfl | (simp_all [bI, r_arith]; done) | (simp_all [bI, r_arith]; rfl), rfl, rfl⟩) dX10_arith_55
      · skip
        refine lv_iload_n hx hb dX10_arith_32 rfl (lv_at hl 1 rfl) ?_
        refine lv_iload_n hx hb dX10_arith_33 rfl (lv_at hl 2 rfl) ?_
        refine lv_imul hx hb dX10_arith_34 ?_
        refine lv_goto (tgt := 55) hx hb dX10_arith_35 (by decide) ?_
        exact m_iret X hr hlk hw hS (Nat.zero_le _) (Nat.zero_le _) (⟨by clear hz hb hx hl hS hw hnm hlk hr X; first | rfl | (simp_all [bI, r_arith]; done) | (simp_all [bI, r_arith]; rfl), rfl, rfl⟩) dX10_arith_55
    · skip
      refine lv_iload_n hx hb dX10_arith_18 rfl (lv_at hl 1 rfl) ?_
      refine lv_iload_n hx hb dX10_arith_19 rfl (lv_at hl 2 rfl) ?_
      refine lv_isub hx hb dX10_arith_20 ?_
      refine lv_goto (tgt := 55) hx hb dX10_arith_21 (by decide) ?_
      exact m_iret X hr hlk hw hS (Nat.zero_le _) (Nat.zero_le _) (⟨by clear hz hb hx hl hS hw hnm hlk hr X; first | rfl | (simp_all [bI, r_arith]; done) | (simp_all [bI, r_arith]; rfl), rfl, rfl⟩) dX10_arith_55
  · skip
    refine lv_iload_n hx hb dX10_arith_6 rfl (lv_at hl 1 rfl) ?_
    refine lv_iload_n hx hb dX10_arith_7 rfl (lv_at hl 2 rfl) ?_
    refine lv_iadd hx hb dX10_arith_8 ?_
    refine lv_goto (tgt := 55) hx hb dX10_arith_9 (by decide) ?_
    exact m_iret X hr hlk hw hS (Nat.zero_le _) (Nat.zero_le _) (⟨by clear hz hb hx hl hS hw hnm hlk hr X; first | rfl | (simp_all [bI, r_arith]; done) | (simp_all [bI, r_arith]; rfl), rfl, rfl⟩) dX10_arith_55
theorem s_X10_arithLong : mSm yX10_arithLong cX10_arithLong 6 (some .long) 3 := ⟨cd_X10_arithLong, st_X10_arithLong, ini_X10, by decide, by decide, by decide +kernel⟩
set_option maxHeartbeats 4000000 in
set_option maxRecDepth 100000 in
theorem k_X10_arithLong (Γ : mG) (l : Launch) (L : mI → Nat) (M : mM) (a : Int64) (u : Int64) (v : Int64) (hz : a = 0 ∨ a = 1 ∨ a = 2 ∨ ¬ v = 0) : mMet Γ l yX10_arithLong cX10_arithLong 6 (some .long) { frames := 0, cells := 0, slots := 0, locals := 0 } [.long a, .long u, .long v] L M (mQl Γ (fun r L1 M1 => r = r_arithL a u v ∧ L1 = L ∧ M1 = M)) := by
  refine m_start (by decide) (Nat.le_of_ble_eq_true rfl) ?_
  intro p e s m args below meth c A ls X hr hlk hnm hw hS hl
  have hx := X.1.1
  have hb := X.1.2.1
  have hl : lv_has ls 6 [(0, .long a), (2, .long u), (4, .long v)] := hl
  refine lv_lload_n hx hb dX10_arithLong_0 rfl (lv_at hl 0 rfl) ?_
  refine lv_lconst (v := 0) hx hb dX10_arithLong_1 (by decide) ?_
  refine m_lcmp_ne (tgt := 13) hx hb dX10_arithLong_2 dX10_arithLong_3 (by decide) (fun c_1 => ?_) (fun c_1 => ?_)
  · skip
    refine lv_lload_n hx hb dX10_arithLong_13 rfl (lv_at hl 0 rfl) ?_
    refine lv_lconst (v := 1) hx hb dX10_arithLong_14 (by decide) ?_
    refine m_lcmp_ne (tgt := 26) hx hb dX10_arithLong_15 dX10_arithLong_16 (by decide) (fun c_2 => ?_) (fun c_2 => ?_)
    · skip
      refine lv_lload_n hx hb dX10_arithLong_26 rfl (lv_at hl 0 rfl) ?_
      refine lv_ldc2 (v := (2)) hx hb X.1.2.2.2.1 (X.1.2.2.2.2 _ kl_X10_276) dX10_arithLong_27 ?_
      refine m_lcmp_ne (tgt := 41) hx hb dX10_arithLong_30 dX10_arithLong_31 (by decide) (fun c_3 => ?_) (fun c_3 => ?_)
      · skip
        refine lv_lload_n hx hb dX10_arithLong_41 rfl (lv_at hl 0 rfl) ?_
        refine lv_ldc2 (v := (3)) hx hb X.1.2.2.2.1 (X.1.2.2.2.2 _ kl_X10_278) dX10_arithLong_42 ?_
        refine m_lcmp_ne (tgt := 56) hx hb dX10_arithLong_45 dX10_arithLong_46 (by decide) (fun c_4 => ?_) (fun c_4 => ?_)
        · skip
          refine lv_lload_n hx hb dX10_arithLong_56 rfl (lv_at hl 1 rfl) ?_
          refine lv_lload hx hb dX10_arithLong_57 (lv_at hl 2 rfl) ?_
          refine lv_lrem hx hb dX10_arithLong_59 (by first | assumption | (rcases hz with z | z | z | z <;> first | exact absurd z (by assumption) | exact z)) ?_
          exact m_lret X hr hlk hw hS (Nat.zero_le _) (Nat.zero_le _) (⟨by clear hz hb hx hl hS hw hnm hlk hr X; first | rfl | (simp_all [bI, r_arithL]; done) | (simp_all [bI, r_arithL]; rfl), rfl, rfl⟩) dX10_arithLong_60
        · skip
          refine lv_lload_n hx hb dX10_arithLong_49 rfl (lv_at hl 1 rfl) ?_
          refine lv_lload hx hb dX10_arithLong_50 (lv_at hl 2 rfl) ?_
          refine lv_ldiv hx hb dX10_arithLong_52 (by first | assumption | (rcases hz with z | z | z | z <;> first | exact absurd z (by assumption) | exact z)) ?_
          refine lv_goto (tgt := 60) hx hb dX10_arithLong_53 (by decide) ?_
          exact m_lret X hr hlk hw hS (Nat.zero_le _) (Nat.zero_le _) (⟨by clear hz hb hx hl hS hw hnm hlk hr X; first | rfl | (simp_all [bI, r_arithL]; done) | (simp_all [bI, r_arithL]; rfl), rfl, rfl⟩) dX10_arithLong_60
      · skip
        refine lv_lload_n hx hb dX10_arithLong_34 rfl (lv_at hl 1 rfl) ?_
        refine lv_lload hx hb dX10_arithLong_35 (lv_at hl 2 rfl) ?_
        refine lv_lmul hx hb dX10_arithLong_37 ?_
        refine lv_goto (tgt := 60) hx hb dX10_arithLong_38 (by decide) ?_
        exact m_lret X hr hlk hw hS (Nat.zero_le _) (Nat.zero_le _) (⟨by clear hz hb hx hl hS hw hnm hlk hr X; first | rfl | (simp_all [bI, r_arithL]; done) | (simp_all [bI, r_arithL]; rfl), rfl, rfl⟩) dX10_arithLong_60
    · skip
      refine lv_lload_n hx hb dX10_arithLong_19 rfl (lv_at hl 1 rfl) ?_
      refine lv_lload hx hb dX10_arithLong_20 (lv_at hl 2 rfl) ?_
      refine lv_lsub hx hb dX10_arithLong_22 ?_
      refine lv_goto (tgt := 60) hx hb dX10_arithLong_23 (by decide) ?_
      exact m_lret X hr hlk hw hS (Nat.zero_le _) (Nat.zero_le _) (⟨by clear hz hb hx hl hS hw hnm hlk hr X; first | rfl | (simp_all [bI, r_arithL]; done) | (simp_all [bI, r_arithL]; rfl), rfl, rfl⟩) dX10_arithLong_60
  · skip
    refine lv_lload_n hx hb dX10_arithLong_6 rfl (lv_at hl 1 rfl) ?_
    refine lv_lload hx hb dX10_arithLong_7 (lv_at hl 2 rfl) ?_
    refine lv_ladd hx hb dX10_arithLong_9 ?_
    refine lv_goto (tgt := 60) hx hb dX10_arithLong_10 (by decide) ?_
    exact m_lret X hr hlk hw hS (Nat.zero_le _) (Nat.zero_le _) (⟨by clear hz hb hx hl hS hw hnm hlk hr X; first | rfl | (simp_all [bI, r_arithL]; done) | (simp_all [bI, r_arithL]; rfl), rfl, rfl⟩) dX10_arithLong_60
theorem v_X10_put : mVm yX10_put cX10_put 3 none 1 := ⟨cd_X10_put, im_X10_put, se_X10_put, ini_X10, by decide, by decide, by decide +kernel⟩
set_option maxHeartbeats 4000000 in
set_option maxRecDepth 100000 in
theorem k_X10_put (Γ : mG) (l : Launch) (L : mI → Nat) (x : RS) (v : Int64) (f g : Nat) (hf : x.1 22 = nI f) (hf8 : f < 8) (hg : x.2.1 19 f = nI g) (hg8 : g < 8) : mMet Γ l yX10_put cX10_put 3 none { frames := 0, cells := 0, slots := 0, locals := 0 } [.ref (L (.inl 0)), .long v] L (rM Γ L x) (mQv Γ (fun L1 M1 => L1 = L ∧ M1 = rM Γ L (r_put x f g v))) := by
  refine m_start (by decide) (Nat.le_of_ble_eq_true rfl) ?_
  intro p e s m args below meth c A ls X hr hlk hnm hw hS hl
  have hx := X.1.1
  have hb := X.1.2.1
  have hl : lv_has ls 3 [(0, .ref (L (.inl 0))), (1, .long v)] := hl
  refine lv_aload_n hx hb dX10_put_0 rfl (lv_at hl 0 rfl) ?_
  refine r_get18 X hw dX10_put_1 ?_
  refine lv_bipush (v := 16) hx hb dX10_put_4 (by decide) ?_
  refine lv_aload_n hx hb dX10_put_6 rfl (lv_at hl 0 rfl) ?_
  refine r_get22 X hw dX10_put_7 ?_
  refine lv_imul hx hb dX10_put_10 ?_
  refine lv_bipush (v := 8) hx hb dX10_put_11 (by decide) ?_
  refine lv_iadd hx hb dX10_put_13 ?_
  refine lv_aload_n hx hb dX10_put_14 rfl (lv_at hl 0 rfl) ?_
  refine r_get19 X hw dX10_put_15 ?_
  refine lv_aload_n hx hb dX10_put_18 rfl (lv_at hl 0 rfl) ?_
  refine r_get22 X hw dX10_put_19 ?_
  refine r_ald19N (n := f) X hw hf (by omega) dX10_put_22 ?_
  refine lv_iadd hx hb dX10_put_23 ?_
  refine lv_lload_n hx hb dX10_put_24 rfl (lv_at hl 1 rfl) ?_
  refine r_ast18N (n := ((16 * f) + 8) + g) X hw hS (nadd (a := (16 * f) + 8) (b := g) (nadd (a := 16 * f) (b := 8) (nmul (a := 16) (b := f) rfl hf) rfl) hg) (by omega) dX10_put_25 (fun H locs hw hS => ?_)
  refine lv_aload_n hx hb dX10_put_26 rfl (lv_at hl 0 rfl) ?_
  refine r_get19 X hw dX10_put_27 ?_
  refine lv_aload_n hx hb dX10_put_30 rfl (lv_at hl 0 rfl) ?_
  refine r_get22 X hw dX10_put_31 ?_
  refine lv_dup2_11 hx hb dX10_put_34 rfl rfl ?_
  refine r_ald19N (n := f) X hw hf (by omega) dX10_put_35 ?_
  refine lv_iconst (v := 1) hx hb dX10_put_36 (by decide) ?_
  refine lv_iadd hx hb dX10_put_37 ?_
  refine lv_topi (fun v_1 ev_1 => ?_)
  obtain rfl : v_1 = nI (g + 1) := ev_1.trans (nadd (a := g) (b := 1) hg rfl)
  clear ev_1
  refine r_ast19N (n := f) X hw hS hf (by omega) dX10_put_38 (fun H locs hw hS => ?_)
  exact m_vret X hr hlk hw hS (Nat.zero_le _) (Nat.zero_le _) ⟨rfl, by clear hb hx hl hS hw hnm hlk hr X; first | rfl | (simp_all [bI, r_put]; done) | (simp_all [bI, r_put]; rfl)⟩ dX10_put_39
theorem v_X10_putLong : mVm yX10_putLong cX10_putLong 3 none 1 := ⟨cd_X10_putLong, im_X10_putLong, se_X10_putLong, ini_X10, by decide, by decide, by decide +kernel⟩
set_option maxHeartbeats 4000000 in
set_option maxRecDepth 100000 in
theorem k_X10_putLong (Γ : mG) (l : Launch) (L : mI → Nat) (x : RS) (v : Int64) (f g : Nat) (hf : x.1 22 = nI f) (hf8 : f < 8) (hg : x.2.1 19 f = nI g) (hg8 : g ≤ 6) : mMet Γ l yX10_putLong cX10_putLong 3 none { frames := 1, cells := 0, slots := 0, locals := 22 } [.ref (L (.inl 0)), .long v] L (rM Γ L x) (mQv Γ (fun L1 M1 => L1 = L ∧ M1 = rM Γ L (r_put2 x f g v))) := by
  refine m_start (by decide) (Nat.le_of_ble_eq_true rfl) ?_
  intro p e s m args below meth c A ls X hr hlk hnm hw hS hl
  have hx := X.1.1
  have hb := X.1.2.1
  have hl : lv_has ls 3 [(0, .ref (L (.inl 0))), (1, .long v)] := hl
  refine lv_aload_n hx hb dX10_putLong_0 rfl (lv_at hl 0 rfl) ?_
  refine lv_lload_n hx hb dX10_putLong_1 rfl (lv_at hl 1 rfl) ?_
  refine m_callv (m_runV (i := .inl 0) (ci := 8) (As := [.long v]) (rest := []) X (k_X10_put Γ l L x v f g hf hf8 hg (by omega)) v_X10_put ml_X10_238 hw hS rfl rfl rfl rfl hl.1 ⟨Nat.le_of_ble_eq_true rfl, Nat.le_of_ble_eq_true rfl⟩ (Nat.le_of_ble_eq_true rfl) ⟨Nat.le_of_ble_eq_true rfl, Nat.le_of_ble_eq_true rfl⟩ dX10_putLong_2) hS (fun L1 M1 H locs hp_1 hw hS => ?_)
  obtain ⟨e1, e2⟩ := hp_1
  rw [e1, e2] at hw; clear e1 e2
  refine lv_aload_n hx hb dX10_putLong_5 rfl (lv_at hl 0 rfl) ?_
  refine lv_lconst (v := 0) hx hb dX10_putLong_6 (by decide) ?_
  refine m_callv (m_runV (i := .inl 0) (ci := 8) (As := [.long 0]) (rest := []) X (k_X10_put Γ l L (r_put x f g v) 0 f (g + 1) hf hf8 (by simp [r_put, sA, sJ, va_up, upd]) (by omega)) v_X10_put ml_X10_238 hw hS rfl rfl rfl rfl hl.1 ⟨Nat.le_of_ble_eq_true rfl, Nat.le_of_ble_eq_true rfl⟩ (Nat.le_of_ble_eq_true rfl) ⟨Nat.le_of_ble_eq_true rfl, Nat.le_of_ble_eq_true rfl⟩ dX10_putLong_7) hS (fun L1 M1 H locs hp_3 hw hS => ?_)
  obtain ⟨e1, e2⟩ := hp_3
  rw [e1, e2] at hw; clear e1 e2
  exact m_vret X hr hlk hw hS (Nat.zero_le _) (Nat.zero_le _) ⟨rfl, by clear hb hx hl hS hw hnm hlk hr X; first | rfl | (simp_all [bI, r_put2]; done) | (simp_all [bI, r_put2]; rfl)⟩ dX10_putLong_10
theorem v_X10_take : mVm yX10_take cX10_take 1 (some .long) 0 := ⟨cd_X10_take, im_X10_take, se_X10_take, ini_X10, by decide, by decide, by decide +kernel⟩
set_option maxHeartbeats 4000000 in
set_option maxRecDepth 100000 in
theorem k_X10_take (Γ : mG) (l : Launch) (L : mI → Nat) (x : RS)  (f g : Nat) (hf : x.1 22 = nI f) (hf8 : f < 8) (hg : x.2.1 19 f = nI g) (hg1 : 1 ≤ g) (hg8 : g ≤ 8) : mMet Γ l yX10_take cX10_take 1 (some .long) { frames := 0, cells := 0, slots := 0, locals := 0 } [.ref (L (.inl 0))] L (rM Γ L x) (mQl Γ (fun r L1 M1 => r = x.2.2 18 (16 * f + 8 + (g - 1)) ∧ L1 = L ∧ M1 = rM Γ L (sA x 19 f (nI (g - 1))))) := by
  refine m_start (by decide) (Nat.le_of_ble_eq_true rfl) ?_
  intro p e s m args below meth c A ls X hr hlk hnm hw hS hl
  have hx := X.1.1
  have hb := X.1.2.1
  have hl : lv_has ls 1 [(0, .ref (L (.inl 0)))] := hl
  refine lv_aload_n hx hb dX10_take_0 rfl (lv_at hl 0 rfl) ?_
  refine r_get19 X hw dX10_take_1 ?_
  refine lv_aload_n hx hb dX10_take_4 rfl (lv_at hl 0 rfl) ?_
  refine r_get22 X hw dX10_take_5 ?_
  refine lv_dup2_11 hx hb dX10_take_8 rfl rfl ?_
  refine r_ald19N (n := f) X hw hf (by omega) dX10_take_9 ?_
  refine lv_iconst (v := 1) hx hb dX10_take_10 (by decide) ?_
  refine lv_isub hx hb dX10_take_11 ?_
  refine lv_topi (fun v_1 ev_1 => ?_)
  obtain rfl : v_1 = nI (g - 1) := ev_1.trans (nsub (a := g) (b := 1) (by omega) hg rfl)
  clear ev_1
  refine r_ast19N (n := f) X hw hS hf (by omega) dX10_take_12 (fun H locs hw hS => ?_)
  refine lv_aload_n hx hb dX10_take_13 rfl (lv_at hl 0 rfl) ?_
  refine r_get18 X hw dX10_take_14 ?_
  refine lv_bipush (v := 16) hx hb dX10_take_17 (by decide) ?_
  refine lv_aload_n hx hb dX10_take_19 rfl (lv_at hl 0 rfl) ?_
  refine r_get22 X hw dX10_take_20 ?_
  refine lv_imul hx hb dX10_take_23 ?_
  refine lv_bipush (v := 8) hx hb dX10_take_24 (by decide) ?_
  refine lv_iadd hx hb dX10_take_26 ?_
  refine lv_aload_n hx hb dX10_take_27 rfl (lv_at hl 0 rfl) ?_
  refine r_get19 X hw dX10_take_28 ?_
  refine lv_aload_n hx hb dX10_take_31 rfl (lv_at hl 0 rfl) ?_
  refine r_get22 X hw dX10_take_32 ?_
  refine r_ald19N (n := f) X hw hf (by omega) dX10_take_35 ?_
  refine lv_iadd hx hb dX10_take_36 ?_
  refine r_ald18N (n := ((16 * f) + 8) + (g - 1)) X hw (nadd (a := (16 * f) + 8) (b := g - 1) (nadd (a := 16 * f) (b := 8) (nmul (a := 16) (b := f) rfl hf) rfl) (by simp [sA, sJ, va_up, upd])) (by omega) dX10_take_37 ?_
  exact m_lret X hr hlk hw hS (Nat.zero_le _) (Nat.zero_le _) ⟨by clear hb hx hl hS hw hnm hlk hr X; first | rfl | (simp_all [bI, sA]; done) | (simp_all [bI, sA]; rfl), rfl, by clear hb hx hl hS hw hnm hlk hr X; first | rfl | (simp_all [bI, sA]; done) | (simp_all [bI, sA]; rfl)⟩ dX10_take_38
theorem v_X10_takeLong : mVm yX10_takeLong cX10_takeLong 1 (some .long) 0 := ⟨cd_X10_takeLong, im_X10_takeLong, se_X10_takeLong, ini_X10, by decide, by decide, by decide +kernel⟩
set_option maxHeartbeats 4000000 in
set_option maxRecDepth 100000 in
theorem k_X10_takeLong (Γ : mG) (l : Launch) (L : mI → Nat) (x : RS)  (f g : Nat) (hf : x.1 22 = nI f) (hf8 : f < 8) (hg : x.2.1 19 f = nI g) (hg1 : 2 ≤ g) (hg8 : g ≤ 8) : mMet Γ l yX10_takeLong cX10_takeLong 1 (some .long) { frames := 0, cells := 0, slots := 0, locals := 0 } [.ref (L (.inl 0))] L (rM Γ L x) (mQl Γ (fun r L1 M1 => r = x.2.2 18 (16 * f + 8 + (g - 2)) ∧ L1 = L ∧ M1 = rM Γ L (sA x 19 f (nI (g - 2))))) := by
  refine m_start (by decide) (Nat.le_of_ble_eq_true rfl) ?_
  intro p e s m args below meth c A ls X hr hlk hnm hw hS hl
  have hx := X.1.1
  have hb := X.1.2.1
  have hl : lv_has ls 1 [(0, .ref (L (.inl 0)))] := hl
  refine lv_aload_n hx hb dX10_takeLong_0 rfl (lv_at hl 0 rfl) ?_
  refine r_get19 X hw dX10_takeLong_1 ?_
  refine lv_aload_n hx hb dX10_takeLong_4 rfl (lv_at hl 0 rfl) ?_
  refine r_get22 X hw dX10_takeLong_5 ?_
  refine lv_dup2_11 hx hb dX10_takeLong_8 rfl rfl ?_
  refine r_ald19N (n := f) X hw hf (by omega) dX10_takeLong_9 ?_
  refine lv_iconst (v := 2) hx hb dX10_takeLong_10 (by decide) ?_
  refine lv_isub hx hb dX10_takeLong_11 ?_
  refine lv_topi (fun v_1 ev_1 => ?_)
  obtain rfl : v_1 = nI (g - 2) := ev_1.trans (nsub (a := g) (b := 2) (by omega) hg rfl)
  clear ev_1
  refine r_ast19N (n := f) X hw hS hf (by omega) dX10_takeLong_12 (fun H locs hw hS => ?_)
  refine lv_aload_n hx hb dX10_takeLong_13 rfl (lv_at hl 0 rfl) ?_
  refine r_get18 X hw dX10_takeLong_14 ?_
  refine lv_bipush (v := 16) hx hb dX10_takeLong_17 (by decide) ?_
  refine lv_aload_n hx hb dX10_takeLong_19 rfl (lv_at hl 0 rfl) ?_
  refine r_get22 X hw dX10_takeLong_20 ?_
  refine lv_imul hx hb dX10_takeLong_23 ?_
  refine lv_bipush (v := 8) hx hb dX10_takeLong_24 (by decide) ?_
  refine lv_iadd hx hb dX10_takeLong_26 ?_
  refine lv_aload_n hx hb dX10_takeLong_27 rfl (lv_at hl 0 rfl) ?_
  refine r_get19 X hw dX10_takeLong_28 ?_
  refine lv_aload_n hx hb dX10_takeLong_31 rfl (lv_at hl 0 rfl) ?_
  refine r_get22 X hw dX10_takeLong_32 ?_
  refine r_ald19N (n := f) X hw hf (by omega) dX10_takeLong_35 ?_
  refine lv_iadd hx hb dX10_takeLong_36 ?_
  refine r_ald18N (n := ((16 * f) + 8) + (g - 2)) X hw (nadd (a := (16 * f) + 8) (b := g - 2) (nadd (a := 16 * f) (b := 8) (nmul (a := 16) (b := f) rfl hf) rfl) (by simp [sA, sJ, va_up, upd])) (by omega) dX10_takeLong_37 ?_
  exact m_lret X hr hlk hw hS (Nat.zero_le _) (Nat.zero_le _) ⟨by clear hb hx hl hS hw hnm hlk hr X; first | rfl | (simp_all [bI, sA]; done) | (simp_all [bI, sA]; rfl), rfl, by clear hb hx hl hS hw hnm hlk hr X; first | rfl | (simp_all [bI, sA]; done) | (simp_all [bI, sA]; rfl)⟩ dX10_takeLong_38
theorem v_X10_isOf : mVm yX10_isOf cX10_isOf 3 (some .boolean) 2 := ⟨cd_X10_isOf, im_X10_isOf, se_X10_isOf, ini_X10, by decide, by decide, by decide +kernel⟩
set_option maxHeartbeats 4000000 in
set_option maxRecDepth 100000 in
theorem k_X10_isOf (Γ : mG) (l : Launch) (L : mI → Nat) (x : RS) (a : Int32) (b : Int32) (t : Nat) (hat : a = nI t) (ht : t < 20) : mMet Γ l yX10_isOf cX10_isOf 3 (some .boolean) { frames := 2, cells := 0, slots := 0, locals := 42 } [.ref (L (.inl 0)), .int a, .int b] L (rM Γ L x) (mQi Γ (fun r L1 M1 => r = bI (r_isOf x t b) ∧ L1 = L ∧ M1 = rM Γ L x)) := by
  refine m_start (by decide) (Nat.le_of_ble_eq_true rfl) ?_
  intro p e s m args below meth c A ls X hr hlk hnm hw hS hl
  have hx := X.1.1
  have hb := X.1.2.1
  have hl : lv_has ls 3 [(0, .ref (L (.inl 0))), (1, .int a), (2, .int b)] := hl
  refine lv_iload_n hx hb dX10_isOf_0 rfl (lv_at hl 2 rfl) ?_
  refine lv_if_eq (tgt := 28) hx hb dX10_isOf_1 (by decide) (fun c_1 => ?_) (fun c_1 => ?_)
  · skip
    refine lv_iconst (v := 1) hx hb dX10_isOf_28 (by decide) ?_
    refine lv_goto (tgt := 33) hx hb dX10_isOf_29 (by decide) ?_
    exact m_zret (b := r_isOf x t b) X hr hlk hw hS (Nat.zero_le _) (Nat.zero_le _) (by clear hb hx hl hS hw hnm hlk hr X; first | (simp_all [bI, r_isOf]; done) | (simp_all [bI, r_isOf]; intro z9; exact absurd z9 (Int32.not_lt.mpr (by assumption))) | rfl | (simp_all [bI, r_isOf]; done) | (simp_all [bI, r_isOf]; rfl)) ⟨rfl, rfl, rfl⟩ dX10_isOf_33
  · skip
    refine lv_aload_n hx hb dX10_isOf_4 rfl (lv_at hl 0 rfl) ?_
    refine r_get24 X hw dX10_isOf_5 ?_
    refine lv_iload_n hx hb dX10_isOf_8 rfl (lv_at hl 1 rfl) ?_
    refine r_ald24N (n := t) X hw hat (by omega) dX10_isOf_9 ?_
    refine lv_bipush (v := 6) hx hb dX10_isOf_10 (by decide) ?_
    refine lv_icmp_ge (tgt := 32) hx hb dX10_isOf_12 (by decide) (fun c_3 => ?_) (fun c_3 => ?_)
    · skip
      refine lv_iconst (v := 0) hx hb dX10_isOf_32 (by decide) ?_
      exact m_zret (b := r_isOf x t b) X hr hlk hw hS (Nat.zero_le _) (Nat.zero_le _) (by clear hb hx hl hS hw hnm hlk hr X; first | (simp_all [bI, r_isOf]; done) | (simp_all [bI, r_isOf]; intro z9; exact absurd z9 (Int32.not_lt.mpr (by assumption))) | rfl | (simp_all [bI, r_isOf]; done) | (simp_all [bI, r_isOf]; rfl)) ⟨rfl, rfl, rfl⟩ dX10_isOf_33
    · skip
      refine lv_aload_n hx hb dX10_isOf_15 rfl (lv_at hl 0 rfl) ?_
      refine r_get24 X hw dX10_isOf_16 ?_
      refine lv_iload_n hx hb dX10_isOf_19 rfl (lv_at hl 1 rfl) ?_
      refine r_ald24N (n := t) X hw hat (by omega) dX10_isOf_20 ?_
      refine lv_iload_n hx hb dX10_isOf_21 rfl (lv_at hl 2 rfl) ?_
      refine m_calli (m_runS (As := [.int (x.2.1 24 t), .int b]) (rest := []) X (k_X10_isUnder Γ l L (rM Γ L x) (x.2.1 24 t) b ) s_X10_isUnder ml_X10_111 hw hS rfl hl.1 ⟨Nat.le_of_ble_eq_true rfl, Nat.le_of_ble_eq_true rfl⟩ (Nat.le_of_ble_eq_true rfl) ⟨Nat.le_of_ble_eq_true rfl, Nat.le_of_ble_eq_true rfl⟩ dX10_isOf_22) hS (fun r_5 L1 M1 H locs hp_4 hw hS => ?_)
      obtain ⟨rfl, e1, e2⟩ := hp_4
      rw [e1, e2] at hw; clear e1 e2
      refine lv_if_eq (tgt := 32) hx hb dX10_isOf_25 (by decide) (fun c_6 => ?_) (fun c_6 => ?_)
      · skip
        have c_6 := bI_f c_6
        refine lv_iconst (v := 0) hx hb dX10_isOf_32 (by decide) ?_
        exact m_zret (b := r_isOf x t b) X hr hlk hw hS (Nat.zero_le _) (Nat.zero_le _) (by clear hb hx hl hS hw hnm hlk hr X; first | (simp_all [bI, r_isOf]; done) | (simp_all [bI, r_isOf]; intro z9; exact absurd z9 (Int32.not_lt.mpr (by assumption))) | rfl | (simp_all [bI, r_isOf]; done) | (simp_all [bI, r_isOf]; rfl)) ⟨rfl, rfl, rfl⟩ dX10_isOf_33
      · skip
        have c_6 := bI_t c_6
        refine lv_iconst (v := 1) hx hb dX10_isOf_28 (by decide) ?_
        refine lv_goto (tgt := 33) hx hb dX10_isOf_29 (by decide) ?_
        exact m_zret (b := r_isOf x t b) X hr hlk hw hS (Nat.zero_le _) (Nat.zero_le _) (by clear hb hx hl hS hw hnm hlk hr X; first | (simp_all [bI, r_isOf]; done) | (simp_all [bI, r_isOf]; intro z9; exact absurd z9 (Int32.not_lt.mpr (by assumption))) | rfl | (simp_all [bI, r_isOf]; done) | (simp_all [bI, r_isOf]; rfl)) ⟨rfl, rfl, rfl⟩ dX10_isOf_33
theorem v_X10_worth : mVm yX10_worth cX10_worth 5 (some .int) 1 := ⟨cd_X10_worth, im_X10_worth, se_X10_worth, ini_X10, by decide, by decide, by decide +kernel⟩
set_option maxHeartbeats 4000000 in
set_option maxRecDepth 100000 in
theorem k_X10_worth (Γ : mG) (l : Launch) (L : mI → Nat) (x : RS) (a : Int32) (t : Nat) (hat : a = nI t) (ht : t < 20) : mMet Γ l yX10_worth cX10_worth 5 (some .int) { frames := 0, cells := 0, slots := 0, locals := 0 } [.ref (L (.inl 0)), .int a] L (rM Γ L x) (mQi Γ (fun r L1 M1 => r = r_worth x t ∧ L1 = L ∧ M1 = rM Γ L x)) := by
  refine m_start (by decide) (Nat.le_of_ble_eq_true rfl) ?_
  intro p e s m args below meth c A ls X hr hlk hnm hw hS hl
  have hx := X.1.1
  have hb := X.1.2.1
  have hl : lv_has ls 5 [(0, .ref (L (.inl 0))), (1, .int a)] := hl
  refine lv_aload_n hx hb dX10_worth_0 rfl (lv_at hl 0 rfl) ?_
  refine r_get26 X hw dX10_worth_1 ?_
  refine lv_iload_n hx hb dX10_worth_4 rfl (lv_at hl 1 rfl) ?_
  refine r_ald26N (n := t) X hw hat (by omega) dX10_worth_5 ?_
  refine lv_istore_n (lv' := [(2, .int (x.2.1 26 t)), (0, .ref (L (.inl 0))), (1, .int a)]) hx hb dX10_worth_6 rfl hl (by decide) rfl (fun ls hl => ?_)
  refine lv_iconst (v := 1) hx hb dX10_worth_7 (by decide) ?_
  refine lv_iload_n hx hb dX10_worth_8 rfl (lv_at hl 0 rfl) ?_
  refine lv_iadd hx hb dX10_worth_9 ?_
  refine lv_istore_n (lv' := [(3, .int (1 + (x.2.1 26 t))), (2, .int (x.2.1 26 t)), (0, .ref (L (.inl 0))), (1, .int a)]) hx hb dX10_worth_10 rfl hl (by decide) rfl (fun ls hl => ?_)
  refine lv_bipush (v := 100) hx hb dX10_worth_11 (by decide) ?_
  refine lv_iload_n hx hb dX10_worth_13 rfl (lv_at hl 1 rfl) ?_
  refine lv_iadd hx hb dX10_worth_14 ?_
  refine lv_istore (lv' := [(4, .int (100 + (x.2.1 26 t))), (3, .int (1 + (x.2.1 26 t))), (2, .int (x.2.1 26 t)), (0, .ref (L (.inl 0))), (1, .int a)]) hx hb dX10_worth_15 hl (by decide) rfl (fun ls hl => ?_)
  refine lv_aload_n hx hb dX10_worth_17 rfl (lv_at hl 3 rfl) ?_
  refine r_get24 X hw dX10_worth_18 ?_
  refine lv_iload_n hx hb dX10_worth_21 rfl (lv_at hl 4 rfl) ?_
  refine r_ald24N (n := t) X hw hat (by omega) dX10_worth_22 ?_
  refine lv_iconst (v := 1) hx hb dX10_worth_23 (by decide) ?_
  refine lv_icmp_ne (tgt := 31) hx hb dX10_worth_24 (by decide) (fun c_1 => ?_) (fun c_1 => ?_)
  · skip
    refine lv_aload_n hx hb dX10_worth_31 rfl (lv_at hl 3 rfl) ?_
    refine r_get24 X hw dX10_worth_32 ?_
    refine lv_iload_n hx hb dX10_worth_35 rfl (lv_at hl 4 rfl) ?_
    refine r_ald24N (n := t) X hw hat (by omega) dX10_worth_36 ?_
    refine lv_iconst (v := 2) hx hb dX10_worth_37 (by decide) ?_
    refine lv_icmp_ne (tgt := 47) hx hb dX10_worth_38 (by decide) (fun c_2 => ?_) (fun c_2 => ?_)
    · skip
      refine lv_aload_n hx hb dX10_worth_47 rfl (lv_at hl 3 rfl) ?_
      refine r_get24 X hw dX10_worth_48 ?_
      refine lv_iload_n hx hb dX10_worth_51 rfl (lv_at hl 4 rfl) ?_
      refine r_ald24N (n := t) X hw hat (by omega) dX10_worth_52 ?_
      refine lv_iconst (v := 3) hx hb dX10_worth_53 (by decide) ?_
      refine lv_icmp_ne (tgt := 64) hx hb dX10_worth_54 (by decide) (fun c_3 => ?_) (fun c_3 => ?_)
      · skip
        refine lv_aload_n hx hb dX10_worth_64 rfl (lv_at hl 3 rfl) ?_
        refine r_get24 X hw dX10_worth_65 ?_
        refine lv_iload_n hx hb dX10_worth_68 rfl (lv_at hl 4 rfl) ?_
        refine r_ald24N (n := t) X hw hat (by omega) dX10_worth_69 ?_
        refine lv_iconst (v := 4) hx hb dX10_worth_70 (by decide) ?_
        refine lv_icmp_ne (tgt := 86) hx hb dX10_worth_71 (by decide) (fun c_4 => ?_) (fun c_4 => ?_)
        · skip
          refine lv_iload hx hb dX10_worth_86 (lv_at hl 0 rfl) ?_
          exact m_iret X hr hlk hw hS (Nat.zero_le _) (Nat.zero_le _) ⟨by clear hb hx hl hS hw hnm hlk hr X; first | rfl | (simp_all [bI, r_worth]; done) | (simp_all [bI, r_worth]; rfl), rfl, rfl⟩ dX10_worth_88
        · skip
          refine lv_iconst (v := 2) hx hb dX10_worth_74 (by decide) ?_
          refine lv_iload_n hx hb dX10_worth_75 rfl (lv_at hl 1 rfl) ?_
          refine lv_imul hx hb dX10_worth_76 ?_
          refine lv_bipush (v := 10) hx hb dX10_worth_77 (by decide) ?_
          refine lv_isub hx hb dX10_worth_79 ?_
          refine lv_iload hx hb dX10_worth_80 (lv_at hl 0 rfl) ?_
          refine lv_iadd hx hb dX10_worth_82 ?_
          refine lv_goto (tgt := 88) hx hb dX10_worth_83 (by decide) ?_
          exact m_iret X hr hlk hw hS (Nat.zero_le _) (Nat.zero_le _) ⟨by clear hb hx hl hS hw hnm hlk hr X; first | rfl | (simp_all [bI, r_worth]; done) | (simp_all [bI, r_worth]; rfl), rfl, rfl⟩ dX10_worth_88
      · skip
        refine lv_bipush (v := 10) hx hb dX10_worth_57 (by decide) ?_
        refine lv_iload_n hx hb dX10_worth_59 rfl (lv_at hl 1 rfl) ?_
        refine lv_iadd hx hb dX10_worth_60 ?_
        refine lv_goto (tgt := 88) hx hb dX10_worth_61 (by decide) ?_
        exact m_iret X hr hlk hw hS (Nat.zero_le _) (Nat.zero_le _) ⟨by clear hb hx hl hS hw hnm hlk hr X; first | rfl | (simp_all [bI, r_worth]; done) | (simp_all [bI, r_worth]; rfl), rfl, rfl⟩ dX10_worth_88
    · skip
      refine lv_iconst (v := 2) hx hb dX10_worth_41 (by decide) ?_
      refine lv_iload_n hx hb dX10_worth_42 rfl (lv_at hl 1 rfl) ?_
      refine lv_imul hx hb dX10_worth_43 ?_
      refine lv_goto (tgt := 88) hx hb dX10_worth_44 (by decide) ?_
      exact m_iret X hr hlk hw hS (Nat.zero_le _) (Nat.zero_le _) ⟨by clear hb hx hl hS hw hnm hlk hr X; first | rfl | (simp_all [bI, r_worth]; done) | (simp_all [bI, r_worth]; rfl), rfl, rfl⟩ dX10_worth_88
  · skip
    refine lv_iload_n hx hb dX10_worth_27 rfl (lv_at hl 1 rfl) ?_
    refine lv_goto (tgt := 88) hx hb dX10_worth_28 (by decide) ?_
    exact m_iret X hr hlk hw hS (Nat.zero_le _) (Nat.zero_le _) ⟨by clear hb hx hl hS hw hnm hlk hr X; first | rfl | (simp_all [bI, r_worth]; done) | (simp_all [bI, r_worth]; rfl), rfl, rfl⟩ dX10_worth_88
