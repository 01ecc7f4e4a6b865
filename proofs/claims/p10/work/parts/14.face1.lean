/-! THE REFERENCE'S FACE, first part -/
theorem r_isIn_iff (v a b : Int64) : r_isIn v a b = true ↔ a.toInt ≤ v.toInt ∧ v.toInt ≤ b.toInt := by
  unfold r_isIn
  simp only [Bool.and_eq_true, Bool.not_eq_true', decide_eq_false_iff_not, Int64.lt_iff_toInt_lt]
  omega
theorem i64_toInt (a : Int32) : a.toInt64.toInt = a.toInt := by simp
def r_isM (n : Nat) (a : Int32) : Bool := decide (0 ≤ a.toInt ∧ a.toInt < n)
theorem nat_of_toInt {a : Int32} (h : 0 ≤ a.toInt) : a = nI a.toInt.toNat ∧ a.toInt.toNat < 2 ^ 31 := by
  have hlt : a.toInt < 2 ^ 31 := by have := Int32.toInt_lt a; omega
  have h2 : a.toInt.toNat < 2 ^ 31 := by omega
  refine ⟨Int32.toInt_inj.mp ?_, h2⟩
  rw [nI_toInt h2]
  omega
theorem isM_nat {n : Nat} {a : Int32} (h : r_isM n a = true) : ∃ k : Nat, k < n ∧ a = nI k := by
  have h1 := of_decide_eq_true h
  obtain ⟨e, -⟩ := nat_of_toInt h1.1
  exact ⟨a.toInt.toNat, by omega, e⟩
theorem isM_eq {n : Nat} {a : Int32} (h8 : n ≤ 8) : r_isIn a.toInt64 0 ((nI n - 1).toInt64) = r_isM n a := by
  apply Bool.eq_iff_iff.mpr
  rw [r_isIn_iff, i64_toInt, i64_toInt]
  unfold r_isM
  rw [decide_eq_true_iff]
  have e : (nI n - 1).toInt = (n : Int) - 1 := by
    have := pk_sub_toInt (a := n) (b := 1) (by omega) (by decide)
    exact this
  rw [e]
  show (0 : Int) ≤ a.toInt ∧ a.toInt ≤ (n : Int) - 1 ↔ _
  omega
theorem isIn_nat {a : Int32} {lo hi : Int64} {l h : Nat} (hl : lo.toInt = l) (hh : hi.toInt = h) (c : r_isIn a.toInt64 lo hi = true) : ∃ k : Nat, l ≤ k ∧ k ≤ h ∧ k < 2 ^ 31 ∧ a = nI k := by
  have h1 := (r_isIn_iff _ _ _).mp c
  rw [i64_toInt, hl, hh] at h1
  obtain ⟨e, e2⟩ := nat_of_toInt (a := a) (by omega)
  exact ⟨a.toInt.toNat, by omega, by omega, e2, e⟩
def r_kinds (a b c : Int32) : Int32 := if r_isKind a = true ∧ r_isKind b = true then (if c = 0 then r_joined a b else bI (r_goes a b)) else -1
def r_told (x : RS) (a : Int32) : Int32 := if a = 0 then x.1 29 else if a = 1 then x.1 30 else if a = 2 then x.1 23 else if a = 3 then (if x.1 33 = 0 then -99999999 else x.1 31) else if a = 4 then (if x.1 33 = 0 then -99999999 else x.1 32) else -1
theorem r_told_out {x : RS} {a : Int32} (h : a.toInt < 0 ∨ 4 < a.toInt) : r_told x a = -1 := by
  unfold r_told
  rw [if_neg (fun e => by rw [e] at h; revert h; decide), if_neg (fun e => by rw [e] at h; revert h; decide), if_neg (fun e => by rw [e] at h; revert h; decide), if_neg (fun e => by rw [e] at h; revert h; decide), if_neg (fun e => by rw [e] at h; revert h; decide)]
def r_count (x : RS) (n : Nat) (a b : Int32) : Int32 := if a = 0 then x.1 0 else if r_isIn a.toInt64 1 3 = true ∧ r_isM n b = true then (if a = 1 then x.2.1 2 b.toNatClampNeg else if a = 2 then x.2.1 5 b.toNatClampNeg else if x.2.1 9 b.toNatClampNeg = 0 then 0 else 1) else -1
def fmA (f : Nat → Int32) (o : Nat) (v : Int32) : Nat → Nat → Int32
  | 0 => f
  | n + 1 => upd (fmA f o v n) (o + n) v
def sAs (x : RS) (k : Nat) (f : Nat → Int32) : RS := (x.1, va_up x.2.1 k f, x.2.2)
def r_method (x : RS) (n : Nat) (a : Int32) : Int32 × RS := if r_isIn a.toInt64 0 4 = true then (if n = 8 then (-3, x) else (nI n, sS (sAs (sA x 1 n a) 7 (fmA (x.2.1 7) (40 * n) (-1) 40)) 0 (nI (n + 1)))) else (-1, x)
theorem sAs_0 (x : RS) (k o : Nat) (v : Int32) : sAs x k (fmA (x.2.1 k) o v 0) = x := by
  unfold sAs fmA
  have e : va_up x.2.1 k (x.2.1 k) = x.2.1 := by
    funext j
    by_cases h : j = k
    · subst h; simp [va_up]
    · simp [va_up, h]
  rw [e]
theorem sAs_fm (x y : RS) (k o t : Nat) (v : Int32) : sA (sAs x k (fmA (y.2.1 k) o v t)) k (o + t) v = sAs x k (fmA (y.2.1 k) o v (t + 1)) := by
  unfold sA sAs
  show (x.1, va_up (va_up x.2.1 k (fmA (y.2.1 k) o v t)) k (upd (va_up x.2.1 k (fmA (y.2.1 k) o v t) k) (o + t) v), x.2.2) = _
  rw [va_upup]
  have e : va_up x.2.1 k (fmA (y.2.1 k) o v t) k = fmA (y.2.1 k) o v t := by simp [va_up]
  rw [e]
  rfl
def r_op (x : RS) (n : Nat) (om : Nat → Nat) (a o : Int32) (v : Int64) : Int32 × RS := if r_isM n a = true then (if om a.toNatClampNeg = 40 then (-3, x) else (nI (om a.toNatClampNeg), sA (sA (sJ (sA x 3 (40 * a.toNatClampNeg + om a.toNatClampNeg) o) 4 (40 * a.toNatClampNeg + om a.toNatClampNeg) v) 2 a.toNatClampNeg (nI (om a.toNatClampNeg + 1))) 9 a.toNatClampNeg 0)) else (-1, x)
theorem v_X10_isMethod : mVm yX10_isMethod cX10_isMethod 2 (some .boolean) 1 := ⟨cd_X10_isMethod, im_X10_isMethod, se_X10_isMethod, ini_X10, by decide, by decide, by decide +kernel⟩
set_option maxHeartbeats 4000000 in
set_option maxRecDepth 100000 in
theorem k_X10_isMethod (Γ : mG) (l : Launch) (L : mI → Nat) (x : RS) (a : Int32) (n : Nat) (hn : x.1 0 = nI n) (h8 : n ≤ 8) : mMet Γ l yX10_isMethod cX10_isMethod 2 (some .boolean) { frames := 1, cells := 0, slots := 0, locals := 25 } [.ref (L (.inl 0)), .int a] L (rM Γ L x) (mQi Γ (fun r L1 M1 => r = bI (r_isM n a) ∧ L1 = L ∧ M1 = rM Γ L x)) := by
  refine m_start (by decide) (Nat.le_of_ble_eq_true rfl) ?_
  intro p e s m args below meth c A ls X hr hlk hnm hw hS hl
  have hx := X.1.1
  have hb := X.1.2.1
  have hl : lv_has ls 2 [(0, .ref (L (.inl 0))), (1, .int a)] := hl
  refine lv_iload_n hx hb dX10_isMethod_0 rfl (lv_at hl 1 rfl) ?_
  refine lv_i2l (v := a.toInt64) hx hb dX10_isMethod_1 rfl ?_
  refine lv_lconst (v := 0) hx hb dX10_isMethod_2 (by decide) ?_
  refine lv_aload_n hx hb dX10_isMethod_3 rfl (lv_at hl 0 rfl) ?_
  refine r_get0 X hw dX10_isMethod_4 ?_
  refine lv_iconst (v := 1) hx hb dX10_isMethod_7 (by decide) ?_
  refine lv_isub hx hb dX10_isMethod_8 ?_
  refine lv_i2l (v := ((x.1 0) - 1).toInt64) hx hb dX10_isMethod_9 rfl ?_
  refine m_calli (m_runS (As := [.long a.toInt64, .long 0, .long (((x.1 0) - 1).toInt64)]) (rest := []) X (k_X10_isIn Γ l L (rM Γ L x) a.toInt64 0 (((x.1 0) - 1).toInt64)) s_X10_isIn ml_X10_79 hw hS rfl hl.1 ⟨Nat.le_of_ble_eq_true rfl, Nat.le_of_ble_eq_true rfl⟩ (Nat.le_of_ble_eq_true rfl) ⟨Nat.le_of_ble_eq_true rfl, Nat.le_of_ble_eq_true rfl⟩ dX10_isMethod_10) hS (fun r_2 L1 M1 H locs hp_1 hw hS => ?_)
  obtain ⟨rfl, e1, e2⟩ := hp_1
  rw [e1, e2] at hw; clear e1 e2
  exact m_zret (b := r_isM n a) X hr hlk hw hS (Nat.zero_le _) (Nat.zero_le _) (by rw [hn, isM_eq h8]) ⟨rfl, rfl, rfl⟩ dX10_isMethod_13
theorem v_X10_kinds : mVm yX10_kinds cX10_kinds 4 (some .int) 3 := ⟨cd_X10_kinds, im_X10_kinds, se_X10_kinds, ini_X10, by decide, by decide, by decide +kernel⟩
set_option maxHeartbeats 4000000 in
set_option maxRecDepth 100000 in
theorem k_X10_kinds (Γ : mG) (l : Launch) (L : mI → Nat) (x : RS) (a : Int32) (b : Int32) (g : Int32)  : mMet Γ l yX10_kinds cX10_kinds 4 (some .int) { frames := 4, cells := 0, slots := 0, locals := 86 } [.ref (L (.inl 0)), .int a, .int b, .int g] L (rM Γ L x) (mQi Γ (fun r L1 M1 => r = r_kinds a b g ∧ L1 = L ∧ M1 = rM Γ L x)) := by
  refine m_start (by decide) (Nat.le_of_ble_eq_true rfl) ?_
  intro p e s m args below meth c A ls X hr hlk hnm hw hS hl
  have hx := X.1.1
  have hb := X.1.2.1
  have hl : lv_has ls 4 [(0, .ref (L (.inl 0))), (1, .int a), (2, .int b), (3, .int g)] := hl
  refine lv_iload_n hx hb dX10_kinds_0 rfl (lv_at hl 1 rfl) ?_
  refine m_calli (m_runS (As := [.int a]) (rest := []) X (k_X10_isKind Γ l L (rM Γ L x) a) s_X10_isKind ml_X10_119 hw hS rfl hl.1 ⟨Nat.le_of_ble_eq_true rfl, Nat.le_of_ble_eq_true rfl⟩ (Nat.le_of_ble_eq_true rfl) ⟨Nat.le_of_ble_eq_true rfl, Nat.le_of_ble_eq_true rfl⟩ dX10_kinds_1) hS (fun r_2 L1 M1 H locs hp_1 hw hS => ?_)
  obtain ⟨rfl, e1, e2⟩ := hp_1
  rw [e1, e2] at hw; clear e1 e2
  refine lv_if_eq (tgt := 14) hx hb dX10_kinds_4 (by decide) (fun c_3 => ?_) (fun c_3 => ?_)
  · skip
    have c_3 := bI_f c_3
    refine lv_iconst (v := (-1)) hx hb dX10_kinds_14 (by decide) ?_
    exact m_iret X hr hlk hw hS (Nat.zero_le _) (Nat.zero_le _) ⟨by clear hb hx hl hS hw hnm hlk hr X; first | rfl | (simp_all [bI, r_kinds]; done) | (simp_all [bI, r_kinds]; rfl), rfl, rfl⟩ dX10_kinds_15
  · skip
    have c_3 := bI_t c_3
    refine lv_iload_n hx hb dX10_kinds_7 rfl (lv_at hl 2 rfl) ?_
    refine m_calli (m_runS (As := [.int b]) (rest := []) X (k_X10_isKind Γ l L (rM Γ L x) b) s_X10_isKind ml_X10_119 hw hS rfl hl.1 ⟨Nat.le_of_ble_eq_true rfl, Nat.le_of_ble_eq_true rfl⟩ (Nat.le_of_ble_eq_true rfl) ⟨Nat.le_of_ble_eq_true rfl, Nat.le_of_ble_eq_true rfl⟩ dX10_kinds_8) hS (fun r_6 L1 M1 H locs hp_5 hw hS => ?_)
    obtain ⟨rfl, e1, e2⟩ := hp_5
    rw [e1, e2] at hw; clear e1 e2
    refine lv_if_ne (tgt := 16) hx hb dX10_kinds_11 (by decide) (fun c_7 => ?_) (fun c_7 => ?_)
    · skip
      have c_7 := bI_t c_7
      refine lv_iload_n hx hb dX10_kinds_16 rfl (lv_at hl 3 rfl) ?_
      refine lv_if_ne (tgt := 28) hx hb dX10_kinds_17 (by decide) (fun c_9 => ?_) (fun c_9 => ?_)
      · skip
        refine lv_iload_n hx hb dX10_kinds_28 rfl (lv_at hl 1 rfl) ?_
        refine lv_iload_n hx hb dX10_kinds_29 rfl (lv_at hl 2 rfl) ?_
        refine m_calli (m_runS (As := [.int a, .int b]) (rest := []) X (k_X10_goes Γ l L (rM Γ L x) a b) s_X10_goes ml_X10_125 hw hS rfl hl.1 ⟨Nat.le_of_ble_eq_true rfl, Nat.le_of_ble_eq_true rfl⟩ (Nat.le_of_ble_eq_true rfl) ⟨Nat.le_of_ble_eq_true rfl, Nat.le_of_ble_eq_true rfl⟩ dX10_kinds_30) hS (fun r_12 L1 M1 H locs hp_11 hw hS => ?_)
        obtain ⟨rfl, e1, e2⟩ := hp_11
        rw [e1, e2] at hw; clear e1 e2
        refine lv_if_eq (tgt := 40) hx hb dX10_kinds_33 (by decide) (fun c_13 => ?_) (fun c_13 => ?_)
        · skip
          have c_13 := bI_f c_13
          refine lv_iconst (v := 0) hx hb dX10_kinds_40 (by decide) ?_
          exact m_iret X hr hlk hw hS (Nat.zero_le _) (Nat.zero_le _) ⟨by clear hb hx hl hS hw hnm hlk hr X; first | rfl | (simp_all [bI, r_kinds]; done) | (simp_all [bI, r_kinds]; rfl), rfl, rfl⟩ dX10_kinds_41
        · skip
          have c_13 := bI_t c_13
          refine lv_iconst (v := 1) hx hb dX10_kinds_36 (by decide) ?_
          refine lv_goto (tgt := 41) hx hb dX10_kinds_37 (by decide) ?_
          exact m_iret X hr hlk hw hS (Nat.zero_le _) (Nat.zero_le _) ⟨by clear hb hx hl hS hw hnm hlk hr X; first | rfl | (simp_all [bI, r_kinds]; done) | (simp_all [bI, r_kinds]; rfl), rfl, rfl⟩ dX10_kinds_41
      · skip
        refine lv_iload_n hx hb dX10_kinds_20 rfl (lv_at hl 1 rfl) ?_
        refine lv_iload_n hx hb dX10_kinds_21 rfl (lv_at hl 2 rfl) ?_
        refine m_calli (m_runS (As := [.int a, .int b]) (rest := []) X (k_X10_joined Γ l L (rM Γ L x) a b) s_X10_joined ml_X10_122 hw hS rfl hl.1 ⟨Nat.le_of_ble_eq_true rfl, Nat.le_of_ble_eq_true rfl⟩ (Nat.le_of_ble_eq_true rfl) ⟨Nat.le_of_ble_eq_true rfl, Nat.le_of_ble_eq_true rfl⟩ dX10_kinds_22) hS (fun r_16 L1 M1 H locs hp_15 hw hS => ?_)
        obtain ⟨rfl, e1, e2⟩ := hp_15
        rw [e1, e2] at hw; clear e1 e2
        refine lv_goto (tgt := 41) hx hb dX10_kinds_25 (by decide) ?_
        exact m_iret X hr hlk hw hS (Nat.zero_le _) (Nat.zero_le _) ⟨by clear hb hx hl hS hw hnm hlk hr X; first | rfl | (simp_all [bI, r_kinds]; done) | (simp_all [bI, r_kinds]; rfl), rfl, rfl⟩ dX10_kinds_41
    · skip
      have c_7 := bI_f c_7
      refine lv_iconst (v := (-1)) hx hb dX10_kinds_14 (by decide) ?_
      exact m_iret X hr hlk hw hS (Nat.zero_le _) (Nat.zero_le _) ⟨by clear hb hx hl hS hw hnm hlk hr X; first | rfl | (simp_all [bI, r_kinds]; done) | (simp_all [bI, r_kinds]; rfl), rfl, rfl⟩ dX10_kinds_15
theorem v_X10_changed : mVm yX10_changed cX10_changed 2 none 1 := ⟨cd_X10_changed, im_X10_changed, se_X10_changed, ini_X10, by decide, by decide, by decide +kernel⟩
set_option maxHeartbeats 4000000 in
set_option maxRecDepth 100000 in
theorem k_X10_changed (Γ : mG) (l : Launch) (L : mI → Nat) (x : RS) (a : Int32) (k : Nat) (hk : a = nI k) (h8 : k < 8) : mMet Γ l yX10_changed cX10_changed 2 none { frames := 0, cells := 0, slots := 0, locals := 0 } [.ref (L (.inl 0)), .int a] L (rM Γ L x) (mQv Γ (fun L1 M1 => L1 = L ∧ M1 = rM Γ L (sA x 9 k 0))) := by
  refine m_start (by decide) (Nat.le_of_ble_eq_true rfl) ?_
  intro p e s m args below meth c A ls X hr hlk hnm hw hS hl
  have hx := X.1.1
  have hb := X.1.2.1
  have hl : lv_has ls 2 [(0, .ref (L (.inl 0))), (1, .int a)] := hl
  refine lv_aload_n hx hb dX10_changed_0 rfl (lv_at hl 0 rfl) ?_
  refine r_get9 X hw dX10_changed_1 ?_
  refine lv_iload_n hx hb dX10_changed_4 rfl (lv_at hl 1 rfl) ?_
  refine lv_iconst (v := 0) hx hb dX10_changed_5 (by decide) ?_
  refine r_ast9N X hw hS hk (by omega) dX10_changed_6 (fun H locs hw hS => ?_)
  exact m_vret X hr hlk hw hS (Nat.zero_le _) (Nat.zero_le _) ⟨rfl, by clear hb hx hl hS hw hnm hlk hr X; first | rfl | (simp_all [bI, sA]; done) | (simp_all [bI, sA]; rfl)⟩ dX10_changed_7
theorem v_X10_told : mVm yX10_told cX10_told 2 (some .int) 1 := ⟨cd_X10_told, im_X10_told, se_X10_told, ini_X10, by decide, by decide, by decide +kernel⟩
set_option maxHeartbeats 4000000 in
set_option maxRecDepth 100000 in
theorem k_X10_told (Γ : mG) (l : Launch) (L : mI → Nat) (x : RS) (a : Int32)  : mMet Γ l yX10_told cX10_told 2 (some .int) { frames := 0, cells := 0, slots := 0, locals := 0 } [.ref (L (.inl 0)), .int a] L (rM Γ L x) (mQi Γ (fun r L1 M1 => r = r_told x a ∧ L1 = L ∧ M1 = rM Γ L x)) := by
  refine m_start (by decide) (Nat.le_of_ble_eq_true rfl) ?_
  intro p e s m args below meth c A ls X hr hlk hnm hw hS hl
  have hx := X.1.1
  have hb := X.1.2.1
  have hl : lv_has ls 2 [(0, .ref (L (.inl 0))), (1, .int a)] := hl
  refine lv_iload_n hx hb dX10_told_0 rfl (lv_at hl 1 rfl) ?_
  by_cases c_1 : a.toInt < 0 ∨ 4 < a.toInt
  · refine lv_tableOut (tgt := 85) hx hb dX10_told_1 c_1 (by decide) ?_
    refine lv_iconst (v := (-1)) hx hb dX10_told_85 (by decide) ?_
    exact m_iret X hr hlk hw hS (Nat.zero_le _) (Nat.zero_le _) ⟨by clear hb hx hl hS hw hnm hlk hr X; first | exact (r_told_out (by assumption)).symm | rfl | (simp_all [bI, r_told]; done) | (simp_all [bI, r_told]; rfl), rfl, rfl⟩ dX10_told_86
  · have c_1b : a.toInt = 0 ∨ a.toInt = 1 ∨ a.toInt = 2 ∨ a.toInt = 3 ∨ a.toInt = 4 := by omega
    rcases c_1b with c_1v | c_1v | c_1v | c_1v | c_1v
    · have c_1e : a = 0 := Int32.toInt_inj.mp c_1v
      refine lv_tableIn (off := 35) (tgt := 36) hx hb dX10_told_1 (by omega) (by omega) (by rw [c_1v]; rfl) (by decide) ?_
      refine lv_aload_n hx hb dX10_told_36 rfl (lv_at hl 0 rfl) ?_
      refine r_get29 X hw dX10_told_37 ?_
      exact m_iret X hr hlk hw hS (Nat.zero_le _) (Nat.zero_le _) ⟨by clear hb hx hl hS hw hnm hlk hr X; first | exact (r_told_out (by assumption)).symm | rfl | (simp_all [bI, r_told]; done) | (simp_all [bI, r_told]; rfl), rfl, rfl⟩ dX10_told_40
    · have c_1e : a = 1 := Int32.toInt_inj.mp c_1v
      refine lv_tableIn (off := 40) (tgt := 41) hx hb dX10_told_1 (by omega) (by omega) (by rw [c_1v]; rfl) (by decide) ?_
      refine lv_aload_n hx hb dX10_told_41 rfl (lv_at hl 0 rfl) ?_
      refine r_get30 X hw dX10_told_42 ?_
      exact m_iret X hr hlk hw hS (Nat.zero_le _) (Nat.zero_le _) ⟨by clear hb hx hl hS hw hnm hlk hr X; first | exact (r_told_out (by assumption)).symm | rfl | (simp_all [bI, r_told]; done) | (simp_all [bI, r_told]; rfl), rfl, rfl⟩ dX10_told_45
    · have c_1e : a = 2 := Int32.toInt_inj.mp c_1v
      refine lv_tableIn (off := 45) (tgt := 46) hx hb dX10_told_1 (by omega) (by omega) (by rw [c_1v]; rfl) (by decide) ?_
      refine lv_aload_n hx hb dX10_told_46 rfl (lv_at hl 0 rfl) ?_
      refine r_get23 X hw dX10_told_47 ?_
      exact m_iret X hr hlk hw hS (Nat.zero_le _) (Nat.zero_le _) ⟨by clear hb hx hl hS hw hnm hlk hr X; first | exact (r_told_out (by assumption)).symm | rfl | (simp_all [bI, r_told]; done) | (simp_all [bI, r_told]; rfl), rfl, rfl⟩ dX10_told_50
    · have c_1e : a = 3 := Int32.toInt_inj.mp c_1v
      refine lv_tableIn (off := 50) (tgt := 51) hx hb dX10_told_1 (by omega) (by omega) (by rw [c_1v]; rfl) (by decide) ?_
      refine lv_aload_n hx hb dX10_told_51 rfl (lv_at hl 0 rfl) ?_
      refine r_get33 X hw dX10_told_52 ?_
      refine lv_if_eq (tgt := 65) hx hb dX10_told_55 (by decide) (fun c_2 => ?_) (fun c_2 => ?_)
      · skip
        refine lv_ldc (v := (-99999999)) hx hb X.1.2.2.2.1 (X.1.2.2.2.2 _ ki_X10_234) dX10_told_65 ?_
        exact m_iret X hr hlk hw hS (Nat.zero_le _) (Nat.zero_le _) ⟨by clear hb hx hl hS hw hnm hlk hr X; first | exact (r_told_out (by assumption)).symm | rfl | (simp_all [bI, r_told]; done) | (simp_all [bI, r_told]; rfl), rfl, rfl⟩ dX10_told_67
      · skip
        refine lv_aload_n hx hb dX10_told_58 rfl (lv_at hl 0 rfl) ?_
        refine r_get31 X hw dX10_told_59 ?_
        refine lv_goto (tgt := 67) hx hb dX10_told_62 (by decide) ?_
        exact m_iret X hr hlk hw hS (Nat.zero_le _) (Nat.zero_le _) ⟨by clear hb hx hl hS hw hnm hlk hr X; first | exact (r_told_out (by assumption)).symm | rfl | (simp_all [bI, r_told]; done) | (simp_all [bI, r_told]; rfl), rfl, rfl⟩ dX10_told_67
    · have c_1e : a = 4 := Int32.toInt_inj.mp c_1v
      refine lv_tableIn (off := 67) (tgt := 68) hx hb dX10_told_1 (by omega) (by omega) (by rw [c_1v]; rfl) (by decide) ?_
      refine lv_aload_n hx hb dX10_told_68 rfl (lv_at hl 0 rfl) ?_
      refine r_get33 X hw dX10_told_69 ?_
      refine lv_if_eq (tgt := 82) hx hb dX10_told_72 (by decide) (fun c_4 => ?_) (fun c_4 => ?_)
      · skip
        refine lv_ldc (v := (-99999999)) hx hb X.1.2.2.2.1 (X.1.2.2.2.2 _ ki_X10_234) dX10_told_82 ?_
        exact m_iret X hr hlk hw hS (Nat.zero_le _) (Nat.zero_le _) ⟨by clear hb hx hl hS hw hnm hlk hr X; first | exact (r_told_out (by assumption)).symm | rfl | (simp_all [bI, r_told]; done) | (simp_all [bI, r_told]; rfl), rfl, rfl⟩ dX10_told_84
      · skip
        refine lv_aload_n hx hb dX10_told_75 rfl (lv_at hl 0 rfl) ?_
        refine r_get32 X hw dX10_told_76 ?_
        refine lv_goto (tgt := 84) hx hb dX10_told_79 (by decide) ?_
        exact m_iret X hr hlk hw hS (Nat.zero_le _) (Nat.zero_le _) ⟨by clear hb hx hl hS hw hnm hlk hr X; first | exact (r_told_out (by assumption)).symm | rfl | (simp_all [bI, r_told]; done) | (simp_all [bI, r_told]; rfl), rfl, rfl⟩ dX10_told_84
theorem v_X10_count : mVm yX10_count cX10_count 3 (some .int) 2 := ⟨cd_X10_count, im_X10_count, se_X10_count, ini_X10, by decide, by decide, by decide +kernel⟩
set_option maxHeartbeats 4000000 in
set_option maxRecDepth 100000 in
theorem k_X10_count (Γ : mG) (l : Launch) (L : mI → Nat) (x : RS) (a : Int32) (b : Int32) (n : Nat) (hn : x.1 0 = nI n) (h8 : n ≤ 8) : mMet Γ l yX10_count cX10_count 3 (some .int) { frames := 2, cells := 0, slots := 0, locals := 46 } [.ref (L (.inl 0)), .int a, .int b] L (rM Γ L x) (mQi Γ (fun r L1 M1 => r = r_count x n a b ∧ L1 = L ∧ M1 = rM Γ L x)) := by
  refine m_start (by decide) (Nat.le_of_ble_eq_true rfl) ?_
  intro p e s m args below meth c A ls X hr hlk hnm hw hS hl
  have hx := X.1.1
  have hb := X.1.2.1
  have hl : lv_has ls 3 [(0, .ref (L (.inl 0))), (1, .int a), (2, .int b)] := hl
  refine lv_iload_n hx hb dX10_count_0 rfl (lv_at hl 1 rfl) ?_
  refine lv_if_ne (tgt := 9) hx hb dX10_count_1 (by decide) (fun c_1 => ?_) (fun c_1 => ?_)
  · skip
    refine lv_iload_n hx hb dX10_count_9 rfl (lv_at hl 1 rfl) ?_
    refine lv_i2l (v := a.toInt64) hx hb dX10_count_10 rfl ?_
    refine lv_lconst (v := 1) hx hb dX10_count_11 (by decide) ?_
    refine lv_ldc2 (v := (3)) hx hb X.1.2.2.2.1 (X.1.2.2.2.2 _ kl_X10_278) dX10_count_12 ?_
    refine m_calli (m_runS (As := [.long a.toInt64, .long 1, .long (3)]) (rest := []) X (k_X10_isIn Γ l L (rM Γ L x) a.toInt64 1 (3)) s_X10_isIn ml_X10_79 hw hS rfl hl.1 ⟨Nat.le_of_ble_eq_true rfl, Nat.le_of_ble_eq_true rfl⟩ (Nat.le_of_ble_eq_true rfl) ⟨Nat.le_of_ble_eq_true rfl, Nat.le_of_ble_eq_true rfl⟩ dX10_count_15) hS (fun r_4 L1 M1 H locs hp_3 hw hS => ?_)
    obtain ⟨rfl, e1, e2⟩ := hp_3
    rw [e1, e2] at hw; clear e1 e2
    refine lv_if_eq (tgt := 29) hx hb dX10_count_18 (by decide) (fun c_5 => ?_) (fun c_5 => ?_)
    · skip
      have c_5 := bI_f c_5
      refine lv_iconst (v := (-1)) hx hb dX10_count_29 (by decide) ?_
      exact m_iret X hr hlk hw hS (Nat.zero_le _) (Nat.zero_le _) ⟨by clear hb hx hl hS hw hnm hlk hr X; first | rfl | (simp_all [bI, r_count]; done) | (simp_all [bI, r_count]; rfl), rfl, rfl⟩ dX10_count_30
    · skip
      have c_5 := bI_t c_5
      refine lv_aload_n hx hb dX10_count_21 rfl (lv_at hl 0 rfl) ?_
      refine lv_iload_n hx hb dX10_count_22 rfl (lv_at hl 2 rfl) ?_
      refine m_calli (m_runV (i := .inl 0) (ci := 8) (As := [.int b]) (rest := []) X (k_X10_isMethod Γ l L x b n hn h8) v_X10_isMethod ml_X10_130 hw hS rfl rfl rfl rfl hl.1 ⟨Nat.le_of_ble_eq_true rfl, Nat.le_of_ble_eq_true rfl⟩ (Nat.le_of_ble_eq_true rfl) ⟨Nat.le_of_ble_eq_true rfl, Nat.le_of_ble_eq_true rfl⟩ dX10_count_23) hS (fun r_8 L1 M1 H locs hp_7 hw hS => ?_)
      obtain ⟨rfl, e1, e2⟩ := hp_7
      rw [e1, e2] at hw; clear e1 e2
      refine lv_if_ne (tgt := 31) hx hb dX10_count_26 (by decide) (fun c_9 => ?_) (fun c_9 => ?_)
      · skip
        have c_9 := bI_t c_9
        have c_90 := c_9
        obtain ⟨k_10, hk_k_10, rfl⟩ := isM_nat c_90
        have hc_k_10 : (nI k_10).toNatClampNeg = k_10 := nI_clamp (by omega)
        refine lv_iload_n hx hb dX10_count_31 rfl (lv_at hl 1 rfl) ?_
        refine lv_iconst (v := 1) hx hb dX10_count_32 (by decide) ?_
        refine lv_icmp_ne (tgt := 45) hx hb dX10_count_33 (by decide) (fun c_11 => ?_) (fun c_11 => ?_)
        · skip
          refine lv_iload_n hx hb dX10_count_45 rfl (lv_at hl 1 rfl) ?_
          refine lv_iconst (v := 2) hx hb dX10_count_46 (by decide) ?_
          refine lv_icmp_ne (tgt := 59) hx hb dX10_count_47 (by decide) (fun c_12 => ?_) (fun c_12 => ?_)
          · skip
            refine lv_aload_n hx hb dX10_count_59 rfl (lv_at hl 0 rfl) ?_
            refine r_get9 X hw dX10_count_60 ?_
            refine lv_iload_n hx hb dX10_count_63 rfl (lv_at hl 2 rfl) ?_
            refine r_ald9N X hw rfl (by omega) dX10_count_64 ?_
            refine lv_if_eq (tgt := 72) hx hb dX10_count_65 (by decide) (fun c_13 => ?_) (fun c_13 => ?_)
            · skip
              refine lv_iconst (v := 0) hx hb dX10_count_72 (by decide) ?_
              exact m_iret X hr hlk hw hS (Nat.zero_le _) (Nat.zero_le _) ⟨by clear hb hx hl hS hw hnm hlk hr X; first | rfl | (simp_all [bI, r_count]; done) | (simp_all [bI, r_count]; rfl), rfl, rfl⟩ dX10_count_73
            · skip
              refine lv_iconst (v := 1) hx hb dX10_count_68 (by decide) ?_
              refine lv_goto (tgt := 73) hx hb dX10_count_69 (by decide) ?_
              exact m_iret X hr hlk hw hS (Nat.zero_le _) (Nat.zero_le _) ⟨by clear hb hx hl hS hw hnm hlk hr X; first | rfl | (simp_all [bI, r_count]; done) | (simp_all [bI, r_count]; rfl), rfl, rfl⟩ dX10_count_73
          · skip
            refine lv_aload_n hx hb dX10_count_50 rfl (lv_at hl 0 rfl) ?_
            refine r_get5 X hw dX10_count_51 ?_
            refine lv_iload_n hx hb dX10_count_54 rfl (lv_at hl 2 rfl) ?_
            refine r_ald5N X hw rfl (by omega) dX10_count_55 ?_
            refine lv_goto (tgt := 73) hx hb dX10_count_56 (by decide) ?_
            exact m_iret X hr hlk hw hS (Nat.zero_le _) (Nat.zero_le _) ⟨by clear hb hx hl hS hw hnm hlk hr X; first | rfl | (simp_all [bI, r_count]; done) | (simp_all [bI, r_count]; rfl), rfl, rfl⟩ dX10_count_73
        · skip
          refine lv_aload_n hx hb dX10_count_36 rfl (lv_at hl 0 rfl) ?_
          refine r_get2 X hw dX10_count_37 ?_
          refine lv_iload_n hx hb dX10_count_40 rfl (lv_at hl 2 rfl) ?_
          refine r_ald2N X hw rfl (by omega) dX10_count_41 ?_
          refine lv_goto (tgt := 73) hx hb dX10_count_42 (by decide) ?_
          exact m_iret X hr hlk hw hS (Nat.zero_le _) (Nat.zero_le _) ⟨by clear hb hx hl hS hw hnm hlk hr X; first | rfl | (simp_all [bI, r_count]; done) | (simp_all [bI, r_count]; rfl), rfl, rfl⟩ dX10_count_73
      · skip
        have c_9 := bI_f c_9
        refine lv_iconst (v := (-1)) hx hb dX10_count_29 (by decide) ?_
        exact m_iret X hr hlk hw hS (Nat.zero_le _) (Nat.zero_le _) ⟨by clear hb hx hl hS hw hnm hlk hr X; first | rfl | (simp_all [bI, r_count]; done) | (simp_all [bI, r_count]; rfl), rfl, rfl⟩ dX10_count_30
  · skip
    refine lv_aload_n hx hb dX10_count_4 rfl (lv_at hl 0 rfl) ?_
    refine r_get0 X hw dX10_count_5 ?_
    exact m_iret X hr hlk hw hS (Nat.zero_le _) (Nat.zero_le _) ⟨by clear hb hx hl hS hw hnm hlk hr X; first | rfl | (simp_all [bI, r_count]; done) | (simp_all [bI, r_count]; rfl), rfl, rfl⟩ dX10_count_8
theorem v_X10_rounds : mVm yX10_rounds cX10_rounds 1 (some .int) 0 := ⟨cd_X10_rounds, im_X10_rounds, se_X10_rounds, ini_X10, by decide, by decide, by decide +kernel⟩
set_option maxHeartbeats 4000000 in
set_option maxRecDepth 100000 in
theorem k_X10_rounds (Γ : mG) (l : Launch) (L : mI → Nat) (x : RS)   : mMet Γ l yX10_rounds cX10_rounds 1 (some .int) { frames := 0, cells := 0, slots := 0, locals := 0 } [.ref (L (.inl 0))] L (rM Γ L x) (mQi Γ (fun r L1 M1 => r = x.1 13 ∧ L1 = L ∧ M1 = rM Γ L x)) := by
  refine m_start (by decide) (Nat.le_of_ble_eq_true rfl) ?_
  intro p e s m args below meth c A ls X hr hlk hnm hw hS hl
  have hx := X.1.1
  have hb := X.1.2.1
  have hl : lv_has ls 1 [(0, .ref (L (.inl 0)))] := hl
  refine lv_aload_n hx hb dX10_rounds_0 rfl (lv_at hl 0 rfl) ?_
  refine r_get13 X hw dX10_rounds_1 ?_
  exact m_iret X hr hlk hw hS (Nat.zero_le _) (Nat.zero_le _) ⟨by clear hb hx hl hS hw hnm hlk hr X; first | rfl | (simp_all [bI, sS]; done) | (simp_all [bI, sS]; rfl), rfl, rfl⟩ dX10_rounds_4
theorem v_X10_answer : mVm yX10_answer cX10_answer 1 (some .int) 0 := ⟨cd_X10_answer, im_X10_answer, se_X10_answer, ini_X10, by decide, by decide, by decide +kernel⟩
set_option maxHeartbeats 4000000 in
set_option maxRecDepth 100000 in
theorem k_X10_answer (Γ : mG) (l : Launch) (L : mI → Nat) (x : RS)   : mMet Γ l yX10_answer cX10_answer 1 (some .int) { frames := 0, cells := 0, slots := 0, locals := 0 } [.ref (L (.inl 0))] L (rM Γ L x) (mQi Γ (fun r L1 M1 => r = x.1 28 ∧ L1 = L ∧ M1 = rM Γ L x)) := by
  refine m_start (by decide) (Nat.le_of_ble_eq_true rfl) ?_
  intro p e s m args below meth c A ls X hr hlk hnm hw hS hl
  have hx := X.1.1
  have hb := X.1.2.1
  have hl : lv_has ls 1 [(0, .ref (L (.inl 0)))] := hl
  refine lv_aload_n hx hb dX10_answer_0 rfl (lv_at hl 0 rfl) ?_
  refine r_get28 X hw dX10_answer_1 ?_
  exact m_iret X hr hlk hw hS (Nat.zero_le _) (Nat.zero_le _) ⟨by clear hb hx hl hS hw hnm hlk hr X; first | rfl | (simp_all [bI, sS]; done) | (simp_all [bI, sS]; rfl), rfl, rfl⟩ dX10_answer_4
theorem v_X10_method : mVm yX10_method cX10_method 3 (some .int) 1 := ⟨cd_X10_method, im_X10_method, se_X10_method, ini_X10, by decide, by decide, by decide +kernel⟩
set_option maxHeartbeats 4000000 in
set_option maxRecDepth 100000 in
theorem k_X10_method (Γ : mG) (l : Launch) (L : mI → Nat) (x : RS) (a : Int32) (n : Nat) (hn : x.1 0 = nI n) (h8 : n ≤ 8) : mMet Γ l yX10_method cX10_method 3 (some .int) { frames := 1, cells := 0, slots := 0, locals := 25 } [.ref (L (.inl 0)), .int a] L (rM Γ L x) (mQi Γ (fun r L1 M1 => r = (r_method x n a).1 ∧ L1 = L ∧ M1 = rM Γ L (r_method x n a).2)) := by
  refine m_start (by decide) (Nat.le_of_ble_eq_true rfl) ?_
  intro p e s m args below meth c A ls X hr hlk hnm hw hS hl
  have hx := X.1.1
  have hb := X.1.2.1
  have hl : lv_has ls 3 [(0, .ref (L (.inl 0))), (1, .int a)] := hl
  have KL : ∀ (u t : Nat) (j : Int32) (H : Heap) (locs : List Loc) (ls : Array Slot), t + u = 40 → j = nI t → r_isIn a.toInt64 0 4 = true → ¬ n = 8 → mW Γ.1 vwCl A L (rM Γ L (sAs (sA x 1 n a) 7 (fmA (x.2.1 7) (40 * n) (-1) t))) H → va_S A s.heap H locs → lv_has ls 3 [(2, .int j), (0, .ref (L (.inl 0))), (1, .int a)] → W p l e { frames := 1, cells := 0, slots := 0, locals := 25 } s m args below meth c H locs 0 0 (MQ below (mQi Γ (fun r L1 M1 => r = (r_method x n a).1 ∧ L1 = L ∧ M1 = rM Γ L (r_method x n a).2) A) args s 0 0 A) (F0 m 38 ls []) := by
    intro u
    induction u with
    | zero =>
      intro t j H locs ls ht hj hin h8n hw hS hl
      refine lv_iload_n hx hb dX10_method_38 rfl (lv_at hl 0 rfl) ?_
      refine lv_bipush (v := 40) hx hb dX10_method_39 (by decide) ?_
      refine lv_icmp_ge (tgt := 65) hx hb dX10_method_41 (by decide) (fun c_1 => ?_) (fun c_1 => ?_)
      · skip
        have c_1n : t ≥ 40 := ngeT (a := t) (b := 40) hj rfl (by omega) (by omega) c_1
        have c_1m : ¬ t < 40 := by omega
        refine lv_aload_n hx hb dX10_method_65 rfl (lv_at hl 1 rfl) ?_
        refine lv_dup hx hb dX10_method_66 rfl ?_
        refine r_get0 X hw dX10_method_67 ?_
        refine lv_iconst (v := 1) hx hb dX10_method_70 (by decide) ?_
        refine lv_iadd hx hb dX10_method_71 ?_
        refine lv_topi (fun v_2 ev_2 => ?_)
        obtain rfl : v_2 = nI (n + 1) := ev_2.trans (nadd (a := n) (b := 1) hn rfl)
        clear ev_2
        refine r_put0 X hw hS dX10_method_72 (fun H locs hw hS => ?_)
        refine lv_aload_n hx hb dX10_method_75 rfl (lv_at hl 1 rfl) ?_
        refine r_get0 X hw dX10_method_76 ?_
        refine lv_iconst (v := 1) hx hb dX10_method_79 (by decide) ?_
        refine lv_isub hx hb dX10_method_80 ?_
        refine lv_topi (fun v_3 ev_3 => ?_)
        obtain rfl : v_3 = nI ((n + 1) - 1) := ev_3.trans (nsub (a := n + 1) (b := 1) (by omega) rfl rfl)
        clear ev_3
        exact m_iret X hr hlk hw hS (Nat.zero_le _) (Nat.zero_le _) ⟨by clear hb hx hl hS hw hnm hlk hr X; first | exact absurd ht (by omega) | (have ht40 : t = 40 := (by omega); subst ht40; simp only [r_method, if_pos hin, if_neg h8n]; rfl) | (simp only [r_method, if_pos ‹r_isIn a.toInt64 0 4 = true›, if_neg ‹¬ n = 8›]; first | rfl | (show nI n + 1 - 1 = nI n; rw [show (1 : Int32) = nI 1 from rfl, nI_add, pk_sub (by omega)]; rfl) | (have ht40 : t = 40 := (by omega); subst ht40; rfl)) | rfl | (simp_all [bI, r_method]; done) | (simp_all [bI, r_method]; rfl), rfl, by clear hb hx hl hS hw hnm hlk hr X; first | exact absurd ht (by omega) | (have ht40 : t = 40 := (by omega); subst ht40; simp only [r_method, if_pos hin, if_neg h8n]; rfl) | (simp only [r_method, if_pos ‹r_isIn a.toInt64 0 4 = true›, if_neg ‹¬ n = 8›]; first | rfl | (show nI n + 1 - 1 = nI n; rw [show (1 : Int32) = nI 1 from rfl, nI_add, pk_sub (by omega)]; rfl) | (have ht40 : t = 40 := (by omega); subst ht40; rfl)) | rfl | (simp_all [bI, r_method]; done) | (simp_all [bI, r_method]; rfl)⟩ dX10_method_81
      · skip
        have c_1n : ¬ t ≥ 40 := ngeF (a := t) (b := 40) hj rfl (by omega) (by omega) c_1
        have c_1m : t < 40 := by omega
        refine lv_aload_n hx hb dX10_method_44 rfl (lv_at hl 1 rfl) ?_
        refine r_get7 X hw dX10_method_45 ?_
        refine lv_bipush (v := 40) hx hb dX10_method_48 (by decide) ?_
        refine lv_aload_n hx hb dX10_method_50 rfl (lv_at hl 1 rfl) ?_
        refine r_get0 X hw dX10_method_51 ?_
        refine lv_imul hx hb dX10_method_54 ?_
        refine lv_iload_n hx hb dX10_method_55 rfl (lv_at hl 0 rfl) ?_
        refine lv_iadd hx hb dX10_method_56 ?_
        refine lv_iconst (v := (-1)) hx hb dX10_method_57 (by decide) ?_
        refine r_ast7N X hw hS (nadd (a := 40 * n) (b := t) (nmul (a := 40) (b := n) rfl hn) hj) (by omega) dX10_method_58 (fun H locs hw hS => ?_)
        refine lv_iinc (v := j + 1) (lv' := [(2, .int (j + 1)), (0, .ref (L (.inl 0))), (1, .int a)]) hx hb dX10_method_59 hl (k := 0) rfl rfl (by decide) rfl (fun ls hl => ?_)
        refine lv_goto (tgt := 38) hx hb dX10_method_62 (by decide) ?_
        exact absurd ht (by omega)
    | succ u ih =>
      intro t j H locs ls ht hj hin h8n hw hS hl
      refine lv_iload_n hx hb dX10_method_38 rfl (lv_at hl 0 rfl) ?_
      refine lv_bipush (v := 40) hx hb dX10_method_39 (by decide) ?_
      refine lv_icmp_ge (tgt := 65) hx hb dX10_method_41 (by decide) (fun c_4 => ?_) (fun c_4 => ?_)
      · skip
        have c_4n : t ≥ 40 := ngeT (a := t) (b := 40) hj rfl (by omega) (by omega) c_4
        have c_4m : ¬ t < 40 := by omega
        refine lv_aload_n hx hb dX10_method_65 rfl (lv_at hl 1 rfl) ?_
        refine lv_dup hx hb dX10_method_66 rfl ?_
        refine r_get0 X hw dX10_method_67 ?_
        refine lv_iconst (v := 1) hx hb dX10_method_70 (by decide) ?_
        refine lv_iadd hx hb dX10_method_71 ?_
        refine lv_topi (fun v_5 ev_5 => ?_)
        obtain rfl : v_5 = nI (n + 1) := ev_5.trans (nadd (a := n) (b := 1) hn rfl)
        clear ev_5
        refine r_put0 X hw hS dX10_method_72 (fun H locs hw hS => ?_)
        refine lv_aload_n hx hb dX10_method_75 rfl (lv_at hl 1 rfl) ?_
        refine r_get0 X hw dX10_method_76 ?_
        refine lv_iconst (v := 1) hx hb dX10_method_79 (by decide) ?_
        refine lv_isub hx hb dX10_method_80 ?_
        refine lv_topi (fun v_6 ev_6 => ?_)
        obtain rfl : v_6 = nI ((n + 1) - 1) := ev_6.trans (nsub (a := n + 1) (b := 1) (by omega) rfl rfl)
        clear ev_6
        exact m_iret X hr hlk hw hS (Nat.zero_le _) (Nat.zero_le _) ⟨by clear hb hx hl hS hw hnm hlk hr X; first | exact absurd ht (by omega) | (have ht40 : t = 40 := (by omega); subst ht40; simp only [r_method, if_pos hin, if_neg h8n]; rfl) | (simp only [r_method, if_pos ‹r_isIn a.toInt64 0 4 = true›, if_neg ‹¬ n = 8›]; first | rfl | (show nI n + 1 - 1 = nI n; rw [show (1 : Int32) = nI 1 from rfl, nI_add, pk_sub (by omega)]; rfl) | (have ht40 : t = 40 := (by omega); subst ht40; rfl)) | rfl | (simp_all [bI, r_method]; done) | (simp_all [bI, r_method]; rfl), rfl, by clear hb hx hl hS hw hnm hlk hr X; first | exact absurd ht (by omega) | (have ht40 : t = 40 := (by omega); subst ht40; simp only [r_method, if_pos hin, if_neg h8n]; rfl) | (simp only [r_method, if_pos ‹r_isIn a.toInt64 0 4 = true›, if_neg ‹¬ n = 8›]; first | rfl | (show nI n + 1 - 1 = nI n; rw [show (1 : Int32) = nI 1 from rfl, nI_add, pk_sub (by omega)]; rfl) | (have ht40 : t = 40 := (by omega); subst ht40; rfl)) | rfl | (simp_all [bI, r_method]; done) | (simp_all [bI, r_method]; rfl)⟩ dX10_method_81
      · skip
        have c_4n : ¬ t ≥ 40 := ngeF (a := t) (b := 40) hj rfl (by omega) (by omega) c_4
        have c_4m : t < 40 := by omega
        refine lv_aload_n hx hb dX10_method_44 rfl (lv_at hl 1 rfl) ?_
        refine r_get7 X hw dX10_method_45 ?_
        refine lv_bipush (v := 40) hx hb dX10_method_48 (by decide) ?_
        refine lv_aload_n hx hb dX10_method_50 rfl (lv_at hl 1 rfl) ?_
        refine r_get0 X hw dX10_method_51 ?_
        refine lv_imul hx hb dX10_method_54 ?_
        refine lv_iload_n hx hb dX10_method_55 rfl (lv_at hl 0 rfl) ?_
        refine lv_iadd hx hb dX10_method_56 ?_
        refine lv_iconst (v := (-1)) hx hb dX10_method_57 (by decide) ?_
        refine r_ast7N X hw hS (nadd (a := 40 * n) (b := t) (nmul (a := 40) (b := n) rfl hn) hj) (by omega) dX10_method_58 (fun H locs hw hS => ?_)
        refine lv_iinc (v := j + 1) (lv' := [(2, .int (j + 1)), (0, .ref (L (.inl 0))), (1, .int a)]) hx hb dX10_method_59 hl (k := 0) rfl rfl (by decide) rfl (fun ls hl => ?_)
        refine lv_goto (tgt := 38) hx hb dX10_method_62 (by decide) ?_
        exact ih (t + 1) _ H locs ls (by omega) (nadd (a := t) (b := 1) hj rfl) hin h8n (by rw [← sAs_fm]; exact hw) hS hl
  refine lv_iload_n hx hb dX10_method_0 rfl (lv_at hl 1 rfl) ?_
  refine lv_i2l (v := a.toInt64) hx hb dX10_method_1 rfl ?_
  refine lv_lconst (v := 0) hx hb dX10_method_2 (by decide) ?_
  refine lv_ldc2 (v := (4)) hx hb X.1.2.2.2.1 (X.1.2.2.2.2 _ kl_X10_128) dX10_method_3 ?_
  refine m_calli (m_runS (As := [.long a.toInt64, .long 0, .long (4)]) (rest := []) X (k_X10_isIn Γ l L (rM Γ L x) a.toInt64 0 (4)) s_X10_isIn ml_X10_79 hw hS rfl hl.1 ⟨Nat.le_of_ble_eq_true rfl, Nat.le_of_ble_eq_true rfl⟩ (Nat.le_of_ble_eq_true rfl) ⟨Nat.le_of_ble_eq_true rfl, Nat.le_of_ble_eq_true rfl⟩ dX10_method_6) hS (fun r_8 L1 M1 H locs hp_7 hw hS => ?_)
  obtain ⟨rfl, e1, e2⟩ := hp_7
  rw [e1, e2] at hw; clear e1 e2
  refine lv_if_ne (tgt := 14) hx hb dX10_method_9 (by decide) (fun c_9 => ?_) (fun c_9 => ?_)
  · skip
    have c_9 := bI_t c_9
    refine lv_aload_n hx hb dX10_method_14 rfl (lv_at hl 0 rfl) ?_
    refine r_get0 X hw dX10_method_15 ?_
    refine lv_bipush (v := 8) hx hb dX10_method_18 (by decide) ?_
    refine lv_icmp_ne (tgt := 26) hx hb dX10_method_20 (by decide) (fun c_11 => ?_) (fun c_11 => ?_)
    · skip
      have c_11n : ¬ n = 8 := nneT (a := n) (b := 8) hn rfl (by omega) (by omega) c_11
      refine lv_aload_n hx hb dX10_method_26 rfl (lv_at hl 0 rfl) ?_
      refine r_get1 X hw dX10_method_27 ?_
      refine lv_aload_n hx hb dX10_method_30 rfl (lv_at hl 0 rfl) ?_
      refine r_get0 X hw dX10_method_31 ?_
      refine lv_iload_n hx hb dX10_method_34 rfl (lv_at hl 1 rfl) ?_
      refine r_ast1N X hw hS hn (by omega) dX10_method_35 (fun H locs hw hS => ?_)
      refine lv_iconst (v := 0) hx hb dX10_method_36 (by decide) ?_
      refine lv_istore_n (lv' := [(2, .int 0), (0, .ref (L (.inl 0))), (1, .int a)]) hx hb dX10_method_37 rfl hl (by decide) rfl (fun ls hl => ?_)
      exact KL 40 0 _ _ _ ls rfl rfl (by assumption) (by assumption) (by have e := sAs_0 (sA x 1 n a) 7 (40 * n) (-1); show mW Γ.1 vwCl A L (rM Γ L (sAs (sA x 1 n a) 7 (fmA ((sA x 1 n a).2.1 7) (40 * n) (-1) 0))) _; rw [e]; exact hw) hS hl
    · skip
      have c_11n : n = 8 := nneF (a := n) (b := 8) hn rfl (by omega) (by omega) c_11
      refine lv_bipush (v := (-3)) hx hb dX10_method_23 (by decide) ?_
      exact m_iret X hr hlk hw hS (Nat.zero_le _) (Nat.zero_le _) ⟨by clear KL hb hx hl hS hw hnm hlk hr X; first | exact absurd ht (by omega) | (have ht40 : t = 40 := (by omega); subst ht40; simp only [r_method, if_pos hin, if_neg h8n]; rfl) | (simp only [r_method, if_pos ‹r_isIn a.toInt64 0 4 = true›, if_neg ‹¬ n = 8›]; first | rfl | (show nI n + 1 - 1 = nI n; rw [show (1 : Int32) = nI 1 from rfl, nI_add, pk_sub (by omega)]; rfl) | (have ht40 : t = 40 := (by omega); subst ht40; rfl)) | rfl | (simp_all [bI, r_method]; done) | (simp_all [bI, r_method]; rfl), rfl, by clear KL hb hx hl hS hw hnm hlk hr X; first | exact absurd ht (by omega) | (have ht40 : t = 40 := (by omega); subst ht40; simp only [r_method, if_pos hin, if_neg h8n]; rfl) | (simp only [r_method, if_pos ‹r_isIn a.toInt64 0 4 = true›, if_neg ‹¬ n = 8›]; first | rfl | (show nI n + 1 - 1 = nI n; rw [show (1 : Int32) = nI 1 from rfl, nI_add, pk_sub (by omega)]; rfl) | (have ht40 : t = 40 := (by omega); subst ht40; rfl)) | rfl | (simp_all [bI, r_method]; done) | (simp_all [bI, r_method]; rfl)⟩ dX10_method_25
  · skip
    have c_9 := bI_f c_9
    refine lv_iconst (v := (-1)) hx hb dX10_method_12 (by decide) ?_
    exact m_iret X hr hlk hw hS (Nat.zero_le _) (Nat.zero_le _) ⟨by clear KL hb hx hl hS hw hnm hlk hr X; first | exact absurd ht (by omega) | (have ht40 : t = 40 := (by omega); subst ht40; simp only [r_method, if_pos hin, if_neg h8n]; rfl) | (simp only [r_method, if_pos ‹r_isIn a.toInt64 0 4 = true›, if_neg ‹¬ n = 8›]; first | rfl | (show nI n + 1 - 1 = nI n; rw [show (1 : Int32) = nI 1 from rfl, nI_add, pk_sub (by omega)]; rfl) | (have ht40 : t = 40 := (by omega); subst ht40; rfl)) | rfl | (simp_all [bI, r_method]; done) | (simp_all [bI, r_method]; rfl), rfl, by clear KL hb hx hl hS hw hnm hlk hr X; first | exact absurd ht (by omega) | (have ht40 : t = 40 := (by omega); subst ht40; simp only [r_method, if_pos hin, if_neg h8n]; rfl) | (simp only [r_method, if_pos ‹r_isIn a.toInt64 0 4 = true›, if_neg ‹¬ n = 8›]; first | rfl | (show nI n + 1 - 1 = nI n; rw [show (1 : Int32) = nI 1 from rfl, nI_add, pk_sub (by omega)]; rfl) | (have ht40 : t = 40 := (by omega); subst ht40; rfl)) | rfl | (simp_all [bI, r_method]; done) | (simp_all [bI, r_method]; rfl)⟩ dX10_method_13
